/** Counts the answers that are not the ones that are due; tells where in a test each one stands. */
final class Checks {
    private static int wrong = 0;
    private static int asked = 0;

    private Checks() {
    }

    static void due(long got, long want) {
        asked++;
        if (got != want) {
            report("answered " + got + ", due is " + want);
        }
    }

    static void due(String got, String want) {
        asked++;
        if (!got.equals(want)) {
            report("answered " + got + ", due is " + want);
        }
    }

    static void fail(String what) {
        asked++;
        report(what);
    }

    /** What a call of element answers, or which exception it throws, as a text. */
    static String element(KnotCaller x, int d, int i) {
        try {
            return Long.toString(x.element(d, i));
        } catch (RuntimeException e) {
            return e.getClass().getSimpleName();
        }
    }

    static int asked() {
        return asked;
    }

    static int wrong() {
        return wrong;
    }

    static void end() {
        System.out.println(asked + " answers, " + wrong + " wrong");
        if (wrong != 0) {
            System.exit(1);
        }
    }

    private static void report(String what) {
        wrong++;
        for (StackTraceElement at : new Throwable().getStackTrace()) {
            if (!at.getClassName().equals("Checks") && !at.getMethodName().equals("due")) {
                System.out.println(at.getFileName() + ":" + at.getLineNumber() + " "
                        + at.getMethodName() + ": " + what);
                return;
            }
        }
    }
}
