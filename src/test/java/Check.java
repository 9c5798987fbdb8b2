import java.util.List;

/** Compares answers with what is due, counts the wrong ones, and ends a test with the exit code. */
final class Check {
    /** A call that a test expects an exception of. */
    interface Call {
        void run();
    }

    private static int made = 0;
    private static int wrong = 0;

    private Check() {
    }

    static void same(String what, long got, long due) {
        made++;
        if (got != due) {
            tellWrong(what + " answered " + got + ", due is " + due);
        }
    }

    static void same(String what, List<Long> got, List<Long> due) {
        made++;
        if (!got.equals(due)) {
            tellWrong(what + " is " + got + ", due is " + due);
        }
    }

    static void isTrue(String what, boolean holds) {
        made++;
        if (!holds) {
            tellWrong(what + " does not hold");
        }
    }

    static void noSuch(String what, Call call) {
        throwsExactly(what, IndexOutOfBoundsException.class, call);
    }

    static void noLeaf(String what, Call call) {
        throwsExactly(what, IllegalArgumentException.class, call);
    }

    static void full(String what, Call call) {
        throwsExactly(what, UnsupportedOperationException.class, call);
    }

    /** Exactly: what the machine throws of itself is a subclass of IndexOutOfBoundsException. */
    private static void throwsExactly(String what, Class<?> due, Call call) {
        made++;
        Class<?> got = null;
        try {
            call.run();
        } catch (RuntimeException e) {
            got = e.getClass();
        }
        if (got != due) {
            tellWrong(what + " threw " + got + ", due is " + due);
        }
    }

    static void tellWrong(String text) {
        wrong++;
        if (wrong <= 20) {
            System.out.println(text);
        }
    }

    static void end(String test) {
        System.out.println(test + ": " + made + " checks, " + wrong + " wrong");
        if (wrong != 0 || made == 0) {
            System.exit(1);
        }
    }
}
