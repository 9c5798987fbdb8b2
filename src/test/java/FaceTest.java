import java.lang.reflect.Constructor;
import java.lang.reflect.Field;
import java.lang.reflect.Method;
import java.lang.reflect.Modifier;
import java.util.Arrays;
import java.util.Set;
import java.util.TreeSet;

/** The public face: what the document names, and no other member that others can see. */
public final class FaceTest {
    public static void main(String[] args) {
        Set<String> due = new TreeSet<>(Set.of(
            "field int NONE",
            "constructor [int, int, int, long]",
            "method long read [int, int, int]",
            "method long write [int, long, int, int]",
            "method int trace [int, int]",
            "method long stored [int, int, int, int]",
            "method int written [int, int]",
            "method int stash [int, int]",
            "method int count [int]"));
        Set<String> seen = seenByOthers();
        Check.isTrue("the face is " + seen + ", due is " + due + ": this", seen.equals(due));
        int modifiers = CoinTree.class.getModifiers();
        Check.isTrue("the class is public", Modifier.isPublic(modifiers));
        Check.isTrue("the class is final", Modifier.isFinal(modifiers));
        staticFieldsAreFinal();
        namesOfPublicMethodsAreTheirOwn();
        Check.end("FaceTest");
    }

    private static Set<String> seenByOthers() {
        Set<String> seen = new TreeSet<>();
        for (Field field : CoinTree.class.getDeclaredFields()) {
            if (!Modifier.isPrivate(field.getModifiers())) {
                seen.add("field " + field.getType() + " " + field.getName());
            }
        }
        for (Constructor<?> made : CoinTree.class.getDeclaredConstructors()) {
            seen.add("constructor " + Arrays.toString(made.getParameterTypes()));
        }
        for (Method method : CoinTree.class.getDeclaredMethods()) {
            if (!Modifier.isPrivate(method.getModifiers())) {
                seen.add("method " + method.getReturnType() + " " + method.getName() + " "
                        + Arrays.toString(method.getParameterTypes()));
            }
        }
        return seen;
    }

    private static void staticFieldsAreFinal() {
        for (Field field : CoinTree.class.getDeclaredFields()) {
            if (Modifier.isStatic(field.getModifiers())) {
                Check.isTrue(field.getName() + " is final", Modifier.isFinal(field.getModifiers()));
            }
        }
    }

    private static void namesOfPublicMethodsAreTheirOwn() {
        Set<String> names = new TreeSet<>();
        for (Method method : CoinTree.class.getDeclaredMethods()) {
            Check.isTrue(method.getName() + " stands once", names.add(method.getName()));
        }
        for (Class<?> inside : CoinTree.class.getDeclaredClasses()) {
            Check.isTrue(inside.getSimpleName() + " is static", Modifier.isStatic(inside.getModifiers()));
            for (Method method : inside.getDeclaredMethods()) {
                Check.isTrue(method.getName() + " is no name of the face", !names.contains(method.getName()));
            }
        }
    }
}
