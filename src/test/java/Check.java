import java.util.NoSuchElementException;

/** What the tests say of an answer: each one that isn't due is printed, and makes the test fail. */
final class Check {
    private static int asked = 0;
    private static int wrong = 0;

    interface Call {
        Object call();
    }

    private Check() {
    }

    static void due(String what, long want, long got) {
        asked++;
        if (got != want) {
            fail(what + " answered " + got + ", due is " + want);
        }
    }

    static void due(String what, boolean want, boolean got) {
        asked++;
        if (got != want) {
            fail(what + " answered " + got + ", due is " + want);
        }
    }

    static void noSuch(String what, Call call) {
        throwsJust(what, NoSuchElementException.class, call);
    }

    static void illegal(String what, Call call) {
        throwsJust(what, IllegalArgumentException.class, call);
    }

    static void fail(String what) {
        wrong++;
        System.out.println(what);
    }

    static int asked() {
        return asked;
    }

    static int wrong() {
        return wrong;
    }

    /** The last line of a test's main. */
    static void end() {
        System.out.println(asked + " asked, " + wrong + " wrong");
        if (wrong != 0 || asked == 0) {
            System.exit(1);
        }
    }

    private static void throwsJust(String what, Class<?> due, Call call) {
        asked++;
        try {
            fail(what + " answered " + call.call() + ", due is " + due.getSimpleName());
        } catch (RuntimeException e) {
            if (e.getClass() != due) {
                fail(what + " threw " + e.getClass().getSimpleName() + ", due is " + due.getSimpleName());
            }
        }
    }
}
