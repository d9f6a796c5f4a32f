/** Counts the answers that are not as due, prints each, and ends a test with the exit code that this asks for. */
final class Checks {
    private static int asked = 0;
    private static int wrong = 0;

    private Checks() {
    }

    static void due(String call, long got, long want) {
        asked++;
        if (got != want) {
            wrong++;
            System.out.println(call + " answered " + got + ", due is " + want);
        }
    }

    static void holds(String what, boolean is) {
        due(what, is ? 1 : 0, 1);
    }

    /** Two tellings of a whole state: where they differ, the first line that does is printed. */
    static void alike(String what, String got, String want) {
        asked++;
        if (got.equals(want)) {
            return;
        }
        wrong++;
        String[] gotLines = got.split("\n");
        String[] wantLines = want.split("\n");
        int at = 0;
        while (at < gotLines.length && at < wantLines.length && gotLines[at].equals(wantLines[at])) {
            at++;
        }
        System.out.println(what + ": it tells " + lineOf(gotLines, at) + ", due is " + lineOf(wantLines, at));
    }

    private static String lineOf(String[] lines, int at) {
        return at < lines.length ? lines[at] : "no more";
    }

    /** What share() answers, or a number that it never answers where it throws as it should. */
    static final long NO_SHARE = Long.MAX_VALUE;

    static long share(JavaBridge x) {
        try {
            return x.share();
        } catch (ArithmeticException e) {
            // the machine's own exception of a division would tell this; the class must throw by itself
            holds("17: share() throws by itself", !"/ by zero".equals(e.getMessage()));
            return NO_SHARE;
        }
    }

    static int askedSoFar() {
        return asked;
    }

    static int wrongSoFar() {
        return wrong;
    }

    static void finish(String test) {
        System.out.println(test + ": " + asked + " answers, " + wrong + " not as due");
        if (wrong != 0 || asked == 0) {
            System.exit(1);
        }
    }
}
