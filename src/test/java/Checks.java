/** Counts the answers that are not as due, prints each, and ends a test with the exit code that this asks for. */
final class Checks {
    private static int asked = 0;
    private static int wrong = 0;

    private Checks() {
    }

    static void due(String call, long got, long want) {
        asked++;
        if (got != want) {
            wrong++;
            System.out.println(call + " answered " + got + ", due is " + want);
        }
    }

    static void holds(String what, boolean is) {
        due(what, is ? 1 : 0, 1);
    }

    /** What share() answers, or a number that it never answers where it throws as it should. */
    static final long NO_SHARE = Long.MAX_VALUE;

    static long share(JavaBridge x) {
        try {
            return x.share();
        } catch (ArithmeticException e) {
            return NO_SHARE;
        }
    }

    static int wrongSoFar() {
        return wrong;
    }

    static void finish(String test) {
        System.out.println(test + ": " + asked + " answers, " + wrong + " not as due");
        if (wrong != 0 || asked == 0) {
            System.exit(1);
        }
    }
}
