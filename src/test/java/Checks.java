import java.util.concurrent.Callable;

/** Compares answers with those that are due, and counts the wrong ones. */
final class Checks {
    private static int made = 0;
    private static int wrong = 0;

    private Checks() {
    }

    static void due(String what, Object got, Object want) {
        made++;
        if (!got.equals(want)) {
            wrong++;
            System.out.println(what + " answered " + got + ", due is " + want);
        }
    }

    static void dueThrow(String what, Class<?> want, Callable<?> call) {
        due(what, outcome(call), "throws " + want.getSimpleName());
    }

    /** The answer of a call, or the name of what it throws, so that both can be compared. */
    static String outcome(Callable<?> call) {
        try {
            return String.valueOf(call.call());
        } catch (Exception thrown) {
            return "throws " + thrown.getClass().getSimpleName();
        }
    }

    static void finish(String name) {
        System.out.println(name + ": " + made + " checks, " + wrong + " wrong");
        if (wrong != 0) {
            System.exit(1);
        }
    }
}
