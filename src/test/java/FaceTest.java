import java.lang.reflect.Constructor;
import java.lang.reflect.Field;
import java.lang.reflect.Member;
import java.lang.reflect.Method;
import java.lang.reflect.Modifier;
import java.util.Set;
import java.util.TreeSet;

/**
 * The public face: what the document names, and no other member that others can see. The tests stand
 * in the class's own package, so no other test would see that a member is not public any more.
 */
public final class FaceTest {
    private static final String NO_SUCH = " throws java.lang.IndexOutOfBoundsException";
    private static final String REFUSED = NO_SUCH
            + ",java.lang.IllegalArgumentException,java.lang.UnsupportedOperationException";
    private static final Set<String> DUE = Set.of(
            "public static final int CoinTree.NONE",
            "public CoinTree(int,int,int,long)",
            "public long CoinTree.read(int,int,int)" + REFUSED,
            "public long CoinTree.write(int,long,int,int)" + REFUSED,
            "public int CoinTree.trace(int,int)" + NO_SUCH,
            "public long CoinTree.stored(int,int,int,int)" + NO_SUCH,
            "public int CoinTree.written(int,int)" + NO_SUCH,
            "public int CoinTree.stash(int,int)" + NO_SUCH,
            "public int CoinTree.count(int)" + NO_SUCH);

    public static void main(String[] args) {
        theClass();
        theMembers();
        noneIsMinusOne();
        staticFieldsAreFinal();
        classesInside();
        namesOfPublicMethodsAreTheirOwn();
        Check.end("FaceTest");
    }

    private static void theClass() {
        Check.isTrue("public final class CoinTree",
                CoinTree.class.toGenericString().equals("public final class CoinTree"));
        Check.isTrue("a class that extends no other", CoinTree.class.getSuperclass() == Object.class);
        Check.same("interfaces of the class", CoinTree.class.getInterfaces().length, 0);
    }

    private static void theMembers() {
        Set<String> seen = new TreeSet<>();
        for (Field field : CoinTree.class.getDeclaredFields()) {
            addIfSeen(seen, field);
        }
        for (Constructor<?> constructor : CoinTree.class.getDeclaredConstructors()) {
            addIfSeen(seen, constructor);
        }
        for (Method method : CoinTree.class.getDeclaredMethods()) {
            addIfSeen(seen, method);
        }
        for (String member : seen) {
            Check.isTrue("a member that the document names: " + member, DUE.contains(member));
        }
        for (String member : DUE) {
            Check.isTrue("a member that is there: " + member, seen.contains(member));
        }
    }

    private static void addIfSeen(Set<String> seen, Member member) {
        if (!Modifier.isPrivate(member.getModifiers())) {
            seen.add(member.toString());
        }
    }

    private static void noneIsMinusOne() {
        Check.same("NONE", CoinTree.NONE, -1);
    }

    private static void staticFieldsAreFinal() {
        for (Field field : CoinTree.class.getDeclaredFields()) {
            if (Modifier.isStatic(field.getModifiers())) {
                Check.isTrue(field.getName() + " is final", Modifier.isFinal(field.getModifiers()));
            }
        }
    }

    private static void classesInside() {
        for (Class<?> inside : CoinTree.class.getDeclaredClasses()) {
            int modifiers = inside.getModifiers();
            Check.isTrue(inside.getSimpleName() + " is static", Modifier.isStatic(modifiers));
            Check.isTrue(inside.getSimpleName() + " is private or package-visible",
                    !Modifier.isPublic(modifiers) && !Modifier.isProtected(modifiers));
        }
    }

    private static void namesOfPublicMethodsAreTheirOwn() {
        Set<String> names = new TreeSet<>();
        for (Method method : CoinTree.class.getDeclaredMethods()) {
            Check.isTrue(method.getName() + " stands once", names.add(method.getName()));
        }
        for (Class<?> inside : CoinTree.class.getDeclaredClasses()) {
            for (Method method : inside.getDeclaredMethods()) {
                Check.isTrue(method.getName() + " is no name of the face", !names.contains(method.getName()));
            }
        }
    }
}
