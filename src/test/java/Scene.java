/**
 * States of a bridge in which each call has the same answer, as places and words hold the same kinds in them: a
 * test of what a call must leave as it is can be run in each.
 */
final class Scene {
    /** The places: one for each kind, one that holds nothing, one that holds what another does. */
    static final int INT = 0;
    static final int CELL = 1;
    static final int TWICE = 2;
    static final int SHELF = 3;
    static final int TWICE_SHELF = 4;
    static final int INTS = 5;
    static final int EMPTY = 6;
    static final int SAME_TWICE = 7;
    static final int LONG = 8;
    static final int REAL = 9;

    /** The words, one of which is not declared. */
    static final int STORE = 0;
    static final int ADD = 1;
    static final int PUT_COPY = 2;
    static final int KEPT_INTS = 3;
    static final int FIRST = 4;
    static final int MAKE_INTS = 5;
    static final int SELF = 6;
    static final int NO_WORD = 7;
    static final int DIVIDE = 8;
    static final int KEEP = 9;

    private Scene() {
    }

    /** Only the maker has started; no word was called since it was declared, and nothing was thrown. */
    static JavaBridge quiet() {
        JavaBridge x = new JavaBridge();
        for (int what = 0; what < 5; what++) {
            Bench.make(x, what, what == Bench.INTS ? 3 : 2, CELL + what);
        }
        declareAll(x);
        x.number(INT, 1, 1);
        x.move(SAME_TWICE, TWICE);
        x.number(LONG, 2, 5);
        x.number(REAL, 3, 6);
        return x;
    }

    private static void declareAll(JavaBridge x) {
        x.declare(STORE, 2, 0, 1, 4, 0, 0);
        x.declare(ADD, 0, 2, 1, 0, 1, 0);
        x.declare(PUT_COPY, 0, 7, 7, 0, 1, 2);
        x.declare(KEPT_INTS, 0, 9, 0, 0, 7, 5);
        x.declare(FIRST, 2, 4, 7, 0, 1, 6);
        x.declare(MAKE_INTS, 3, 4, 1, 0, 7, 0);
        x.declare(SELF, 1, 10, 0, 0, 5, 4);
        x.declare(DIVIDE, 0, 3, 1, 0, 1, 4);
        x.declare(KEEP, 0, 8, 8, 0, 0, 0);
    }

    /** Every class has started, things hold others, words were called, and some threw. */
    static JavaBridge busy() {
        JavaBridge x = quiet();
        x.call(STORE, SHELF, INT, CELL, EMPTY);
        x.call(STORE, TWICE_SHELF, INT, TWICE, EMPTY);
        x.call(STORE, TWICE_SHELF, INT, CELL, EMPTY);
        x.call(KEEP, CELL, INTS, 0, EMPTY);
        x.call(KEEP, TWICE, TWICE, 0, EMPTY);
        x.call(ADD, CELL, INT, 0, EMPTY);
        x.call(SELF, TWICE, 0, 0, EMPTY);
        x.call(FIRST, SHELF, INTS, 0, EMPTY);
        x.set(INTS, 0, 7);
        x.set(INTS, 2, -9);
        x.set(INTS, 3, 1);
        x.number(EMPTY, 1, 0);
        x.call(DIVIDE, CELL, EMPTY, 0, EMPTY);
        x.move(EMPTY, -1);
        return x;
    }
}
