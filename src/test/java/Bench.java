/** A bridge with words for making things, so that a test needs one line for each thing that it wants. */
final class Bench {
    static final int CELL = 0;
    static final int TWICE = 1;
    static final int SHELF = 2;
    static final int TWICE_SHELF = 3;
    static final int INTS = 4;

    /** The word and the place that the bench itself uses; a test leaves both alone, or knows what it does. */
    static final int WORD = 9;
    static final int PLACE = 9;

    private static final int[] KINDS = {4, 5, 6, 6, 7};

    private Bench() {
    }

    static int make(JavaBridge x, int what, int v, int to) {
        x.declare(WORD, 3, what, 1, 0, KINDS[what], 0);
        x.number(PLACE, 1, v);
        return x.call(WORD, 0, PLACE, 0, to);
    }

    /** Calls a member that takes an INT, or nothing (the kind UNIT), through word 8, and with the kind that it has. */
    static int run(JavaBridge x, int cls, int m, int on, int a, int b, int to) {
        x.declare(8, cls, m, x.member(cls, m, 0), x.member(cls, m, 1), x.member(cls, m, 2), 0);
        return x.call(8, on, a, b, to);
    }
}
