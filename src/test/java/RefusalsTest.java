/**
 * 'REFUSALS change nothing; of several the first one here': each refusal of each call by itself, in each scene, with
 * all that can be told of the bridge before and behind it; then several at once; then what is no refusal.
 */
public final class RefusalsTest {
    private static final long NOTHING = Long.MIN_VALUE;
    private static final int MIN = Integer.MIN_VALUE;
    private static final int MAX = Integer.MAX_VALUE;

    /** What lies just outside 0 .. 9, and far outside. */
    private static final int[] OUTSIDE_TEN = {-1, 10, MIN, MAX};
    private static final int[] OUTSIDE_CLASSES = {-1, 4, MIN, MAX};

    private static final String QUIET = Readout.of(Scene.quiet());
    private static final String BUSY = Readout.of(Scene.busy());
    private static final String QUIET_BUT_LATEST = Readout.withoutLatest(Scene.quiet());
    private static final String BUSY_BUT_LATEST = Readout.withoutLatest(Scene.busy());

    private interface Call {
        long on(JavaBridge x);
    }

    public static void main(String[] args) {
        Checks.holds("the scenes differ", !QUIET.equals(BUSY));
        number();
        moveKindValueSame();
        cellAndSet();
        membersAndStarted();
        declareNoSuch();
        declareOutside();
        declareUnfit();
        declareMarks();
        word();
        callNoSuch();
        callUnfit();
        row();
        rowThatLeavesAllOut();
        severalAtOnce();
        share();
        looking();
        throwsOfCellAndSet();
        throwsOfWords();
        allOnOneBridge();
        Checks.finish("RefusalsTest");
    }

    private static void changesNothing(String what, long want, Call call) {
        JavaBridge quiet = Scene.quiet();
        Checks.due(what, call.on(quiet), want);
        Checks.alike(what + ", behind it", Readout.of(quiet), QUIET);
        JavaBridge busy = Scene.busy();
        Checks.due(what, call.on(busy), want);
        Checks.alike(what + ", behind it", Readout.of(busy), BUSY);
    }

    private static void changesLatestAlone(String what, long want, int latest, Call call) {
        JavaBridge quiet = Scene.quiet();
        Checks.due(what, call.on(quiet), want);
        Checks.due(what + ", latest()", quiet.latest(), latest);
        Checks.alike(what + ", behind it", Readout.withoutLatest(quiet), QUIET_BUT_LATEST);
        JavaBridge busy = Scene.busy();
        Checks.due(what, call.on(busy), want);
        Checks.due(what + ", latest()", busy.latest(), latest);
        Checks.alike(what + ", behind it", Readout.withoutLatest(busy), BUSY_BUT_LATEST);
    }

    private static void number() {
        for (int place : OUTSIDE_TEN) {
            changesNothing("2: number, place " + place, -1, x -> x.number(place, 1, 4));
        }
        for (int kind : new int[] {-1, 0, 4, 5, 6, 7, 8, 9, MIN, MAX}) {
            for (int place = 0; place < 10; place++) {
                int at = place;
                changesNothing("2: number, kind " + kind, -2, x -> x.number(at, kind, 4));
            }
        }
        for (long v : new long[] {MAX + 1L, MIN - 1L, 1L << 32, Long.MIN_VALUE, Long.MAX_VALUE}) {
            for (int place = 0; place < 10; place++) {
                int at = place;
                changesNothing("2: number, the INT " + v, -2, x -> x.number(at, 1, v));
            }
        }
    }

    private static void moveKindValueSame() {
        for (int place : OUTSIDE_TEN) {
            changesNothing("3: move to " + place, -1, x -> x.move(place, Scene.CELL));
            changesNothing("3: move nothing to " + place, -1, x -> x.move(place, -1));
            changesNothing("4: kind of " + place, -1, x -> x.kind(place));
            changesNothing("5: value of " + place, NOTHING, x -> x.value(place));
            changesNothing("6: same, one is " + place, -1, x -> x.same(place, Scene.INT));
            changesNothing("6: same, the other is " + place, -1, x -> x.same(Scene.INT, place));
            changesNothing("6: same, both are " + place, -1, x -> x.same(place, place));
        }
        for (int from : new int[] {-2, 10, MIN, MAX}) {
            changesNothing("3: move from " + from, -1, x -> x.move(Scene.CELL, from));
        }
    }

    private static void cellAndSet() {
        for (int place : OUTSIDE_TEN) {
            changesNothing("7: cell of " + place, NOTHING, x -> x.cell(place, 0));
            changesNothing("8: set of " + place, -1, x -> x.set(place, 0, 4));
            changesNothing("7: cell of " + place + ", ahead of an index", NOTHING, x -> x.cell(place, -1));
            changesNothing("8: set of " + place + ", ahead of an index", -1, x -> x.set(place, 16, 4));
        }
    }

    private static void membersAndStarted() {
        for (int cls : OUTSIDE_CLASSES) {
            changesNothing("9: members of " + cls, -1, x -> x.members(cls));
            changesNothing("10: member of class " + cls, -1, x -> x.member(cls, 0, 0));
            changesNothing("16: started of " + cls, -1, x -> x.started(cls));
        }
        int[] counts = {10, 11, 5, 7};
        for (int cls = 0; cls < 4; cls++) {
            int of = cls;
            for (int m : new int[] {-1, counts[cls], MIN, MAX}) {
                changesNothing("10: member " + m + " of class " + cls, -1, x -> x.member(of, m, 0));
            }
            for (int what : new int[] {-1, 3, MIN, MAX}) {
                changesNothing("10: member's " + what + " of class " + cls, -2, x -> x.member(of, 0, what));
            }
        }
    }

    private static void declareNoSuch() {
        for (int word : OUTSIDE_TEN) {
            changesNothing("11: declare, word " + word, -1, x -> x.declare(word, 0, 0, 0, 0, 1, 0));
        }
        for (int cls : OUTSIDE_CLASSES) {
            changesNothing("11: declare, class " + cls, -1, x -> x.declare(Scene.ADD, cls, 0, 0, 0, 1, 0));
        }
        int[] counts = {10, 11, 5, 7};
        for (int cls = 0; cls < 4; cls++) {
            int of = cls;
            for (int m : new int[] {-1, counts[cls], MIN, MAX}) {
                changesNothing("11: declare, member " + m, -1, x -> x.declare(Scene.NO_WORD, of, m, 0, 0, 1, 0));
            }
        }
    }

    private static void declareOutside() {
        for (int out : new int[] {-1, 9, MIN, MAX}) {
            changesNothing("11: in, KIND " + out, -2, x -> x.declare(Scene.ADD, 3, 6, out, 0, 5, 0));
            changesNothing("11: second in, KIND " + out, -2, x -> x.declare(Scene.ADD, 2, 0, 1, out, 0, 0));
            changesNothing("11: out, KIND " + out, -2, x -> x.declare(Scene.ADD, 0, 9, 0, 0, out, 0));
        }
        for (int marks : new int[] {-1, 8, MIN, MAX}) {
            changesNothing("11: MARKS " + marks, -2, x -> x.declare(Scene.ADD, 0, 9, 0, 0, 8, marks));
        }
        for (int kind = 1; kind <= 8; kind++) {
            int second = kind;
            changesNothing("11: UNIT ahead of " + kind, -2, x -> x.declare(Scene.NO_WORD, 2, 0, 0, second, 0, 0));
        }
    }

    private static void declareUnfit() {
        for (int kind = 0; kind <= 8; kind++) {
            int told = kind;
            if (kind != 1) {
                changesNothing("11: put (INT, CELL) told another first", kind == 0 ? -2 : -3,
                    x -> x.declare(Scene.ADD, 2, 0, told, 4, 0, 0));
            }
            if (kind != 4) {
                changesNothing("11: put (INT, CELL) told another second", -3, x -> x.declare(Scene.ADD, 2, 0, 1, told, 0, 0));
            }
            if (kind != 1) {
                changesNothing("11: get () INT told another out", -3, x -> x.declare(Scene.ADD, 0, 0, 0, 0, told, 0));
            }
            if (kind != 4 && kind != 5) {
                changesNothing("11: at () CELL told another out", -3, x -> x.declare(Scene.ADD, 2, 1, 1, 0, told, 0));
            }
            if (kind < 4) {
                changesNothing("11: kept () ANY told no OBJECT", -3, x -> x.declare(Scene.ADD, 0, 9, 0, 0, told, 0));
            }
            if (kind != 5) {
                changesNothing("11: self () TWICE told another out", -3, x -> x.declare(Scene.ADD, 1, 10, 0, 0, told, 0));
            }
        }
    }

    private static void declareMarks() {
        changesNothing("11: MAY, a UNIT comes", -3, x -> x.declare(Scene.NO_WORD, 0, 1, 1, 0, 0, 1));
        changesNothing("11: MAY, an INT comes", -3, x -> x.declare(Scene.NO_WORD, 0, 0, 0, 0, 1, 1));
        changesNothing("11: MAY, a LONG comes", -3, x -> x.declare(Scene.NO_WORD, 0, 4, 0, 0, 2, 1));
        changesNothing("11: MAY, a REAL comes", -3, x -> x.declare(Scene.NO_WORD, 0, 5, 0, 0, 3, 1));
        changesNothing("11: COPY, nothing goes in", -3, x -> x.declare(Scene.NO_WORD, 0, 0, 0, 0, 1, 2));
        changesNothing("11: COPY, an INT goes in", -3, x -> x.declare(Scene.NO_WORD, 3, 4, 1, 0, 7, 2));
        changesNothing("11: COPY, ANY goes in", -3, x -> x.declare(Scene.NO_WORD, 0, 8, 8, 0, 0, 2));
        changesNothing("11: COPY, an INT and a CELL go in", -3, x -> x.declare(Scene.NO_WORD, 2, 0, 1, 4, 0, 2));
        int[][] changers = {{0, 1}, {0, 2}, {0, 7}, {0, 8}, {1, 1}, {1, 2}, {1, 7}, {1, 8}, {2, 0}, {3, 0}, {3, 1}, {3, 2}, {3, 3}, {3, 4}};
        JavaBridge told = new JavaBridge();
        for (int[] changer : changers) {
            int a = told.member(changer[0], changer[1], 0);
            int b = told.member(changer[0], changer[1], 1);
            int out = told.member(changer[0], changer[1], 2);
            changesNothing("11: PURE of member " + changer[1] + " of " + changer[0], -3,
                x -> x.declare(Scene.NO_WORD, changer[0], changer[1], a, b, out, 4));
        }
    }

    private static void word() {
        for (int word : new int[] {-1, 10, Scene.NO_WORD, MIN, MAX}) {
            changesNothing("12: word " + word, -1, x -> x.word(word, 0));
        }
        for (int what : new int[] {-1, 6, MIN, MAX}) {
            changesNothing("12: what " + what, -2, x -> x.word(Scene.ADD, what));
        }
    }

    private static void callNoSuch() {
        for (int word : new int[] {-1, 10, Scene.NO_WORD, MIN, MAX}) {
            changesNothing("13: word " + word, -1, x -> x.call(word, Scene.CELL, Scene.INT, Scene.CELL, Scene.INT));
        }
        for (int no : OUTSIDE_TEN) {
            changesNothing("13: on " + no, -1, x -> x.call(Scene.STORE, no, Scene.INT, Scene.CELL, Scene.REAL));
            changesNothing("13: a " + no, -1, x -> x.call(Scene.STORE, Scene.SHELF, no, Scene.CELL, Scene.REAL));
            changesNothing("13: b " + no, -1, x -> x.call(Scene.STORE, Scene.SHELF, Scene.INT, no, Scene.REAL));
            changesNothing("13: to " + no + " of a UNIT", -1, x -> x.call(Scene.STORE, Scene.SHELF, Scene.INT, Scene.CELL, no));
            changesNothing("13: to " + no, -1, x -> x.call(Scene.ADD, Scene.CELL, Scene.INT, 0, no));
            changesNothing("13: to " + no + " of a new one", -1, x -> x.call(Scene.MAKE_INTS, 0, Scene.INT, 0, no));
            changesNothing("13: a " + no + " of the maker", -1, x -> x.call(Scene.MAKE_INTS, 0, no, 0, Scene.REAL));
        }
    }

    /** Each place with what it holds, where it does not fit: on, as an INT, as a CELL, as INTS, as ANY. */
    private static void callUnfit() {
        for (int place = 0; place < 10; place++) {
            int p = place;
            if (place != Scene.CELL && place != Scene.TWICE && place != Scene.SAME_TWICE && place != Scene.EMPTY) {
                changesNothing("13: a word of CLASS 0 on place " + p, -3, x -> x.call(Scene.ADD, p, Scene.INT, 0, Scene.REAL));
                changesNothing("13: as a CELL place " + p, -3, x -> x.call(Scene.STORE, Scene.SHELF, Scene.INT, p, Scene.REAL));
            }
            if (place != Scene.TWICE && place != Scene.SAME_TWICE && place != Scene.EMPTY) {
                changesNothing("13: a word of CLASS 1 on place " + p, -3, x -> x.call(Scene.SELF, p, 0, 0, Scene.REAL));
            }
            if (place != Scene.SHELF && place != Scene.TWICE_SHELF && place != Scene.EMPTY) {
                changesNothing("13: a word of CLASS 2 on place " + p, -3, x -> x.call(Scene.FIRST, p, Scene.INTS, 0, Scene.REAL));
            }
            if (place != Scene.INT) {
                changesNothing("13: as an INT place " + p, -3, x -> x.call(Scene.ADD, Scene.CELL, p, 0, Scene.REAL));
                changesNothing("13: as an INT of the maker place " + p, -3, x -> x.call(Scene.MAKE_INTS, 0, p, 0, Scene.REAL));
            }
            if (place != Scene.INTS && place != Scene.EMPTY) {
                changesNothing("13: as INTS place " + p, -3, x -> x.call(Scene.PUT_COPY, Scene.CELL, p, 0, Scene.REAL));
            }
            if (place == Scene.INT || place == Scene.LONG || place == Scene.REAL) {
                changesNothing("13: as ANY place " + p, -3, x -> x.call(Scene.KEEP, Scene.CELL, p, 0, Scene.REAL));
            }
        }
    }

    private static void row() {
        for (int word : OUTSIDE_TEN) {
            changesNothing("14: row from " + word, -1, x -> x.row(word, 1, Scene.CELL, Scene.INT, Scene.CELL, Scene.REAL));
        }
        for (int n : new int[] {0, 11, -1, MIN, MAX}) {
            changesNothing("14: row of " + n, -2, x -> x.row(0, n, Scene.CELL, Scene.INT, Scene.CELL, Scene.REAL));
        }
    }

    /** '(one that would be refused is left out)': a row of such alone is answered 0, and does nothing. */
    private static void rowThatLeavesAllOut() {
        for (int no : OUTSIDE_TEN) {
            changesNothing("14: to " + no, 0, x -> x.row(0, 10, Scene.CELL, Scene.INT, Scene.CELL, no));
        }
        changesNothing("14: a word that is not declared", 0, x -> x.row(Scene.NO_WORD, 1, Scene.CELL, Scene.INT, 0, Scene.REAL));
        changesNothing("14: kinds", 0, x -> x.row(0, 10, Scene.INT, Scene.LONG, Scene.LONG, Scene.REAL));
        changesNothing("14: on no place, with a LONG", 0, x -> x.row(0, 10, 10, Scene.LONG, Scene.LONG, Scene.REAL));
    }

    private static void severalAtOnce() {
        changesNothing("2: -1 ahead of the KIND", -1, x -> x.number(10, 0, 4));
        changesNothing("2: -1 ahead of no INT", -1, x -> x.number(-1, 1, 1L << 31));
        changesNothing("10: -1 by the class ahead of -2", -1, x -> x.member(4, 0, 3));
        changesNothing("10: -1 by the member ahead of -2", -1, x -> x.member(2, 5, 3));
        changesNothing("11: -1 by the word ahead of -2", -1, x -> x.declare(10, 0, 0, 9, 0, 1, 0));
        changesNothing("11: -1 by the class ahead of -2", -1, x -> x.declare(0, 4, 0, 0, 0, 9, 0));
        changesNothing("11: -1 by the member ahead of -2", -1, x -> x.declare(0, 0, 10, 0, 0, 1, 8));
        changesNothing("11: -1 by the word ahead of -3", -1, x -> x.declare(-1, 0, 0, 1, 0, 1, 0));
        changesNothing("11: -1 by the member ahead of -3", -1, x -> x.declare(0, 3, 7, 8, 8, 8, 7));
        changesNothing("11: -2 by a KIND ahead of -3", -2, x -> x.declare(0, 0, 0, 9, 0, 2, 0));
        changesNothing("11: -2 by UNIT ahead ahead of -3", -2, x -> x.declare(0, 0, 0, 0, 1, 2, 0));
        changesNothing("11: -2 by MARKS ahead of -3", -2, x -> x.declare(0, 0, 0, 1, 0, 2, 8));
        changesNothing("12: -1 ahead of -2", -1, x -> x.word(Scene.NO_WORD, 6));
        changesNothing("13: -1 by on ahead of -3", -1, x -> x.call(Scene.STORE, 10, Scene.LONG, Scene.LONG, 0));
        changesNothing("13: -1 by a ahead of -3", -1, x -> x.call(Scene.STORE, Scene.CELL, 10, Scene.LONG, 0));
        changesNothing("13: -1 by b ahead of -3", -1, x -> x.call(Scene.STORE, Scene.CELL, Scene.LONG, 10, 0));
        changesNothing("13: -1 by to ahead of -3", -1, x -> x.call(Scene.STORE, Scene.CELL, Scene.LONG, Scene.LONG, 10));
        changesNothing("13: -1 ahead of on nothing", -1, x -> x.call(Scene.STORE, Scene.EMPTY, Scene.INT, Scene.CELL, 10));
        changesNothing("13: -3 ahead of on nothing", -3, x -> x.call(Scene.STORE, Scene.EMPTY, Scene.LONG, Scene.CELL, 0));
        changesNothing("13: -3 by b ahead of on nothing", -3, x -> x.call(Scene.STORE, Scene.EMPTY, Scene.INT, Scene.LONG, 0));
        changesNothing("14: -1 ahead of -2", -1, x -> x.row(10, 11, 0, 0, 0, 0));
    }

    private static void share() {
        JavaBridge x = Scene.quiet();
        Checks.due("17: none threw", Checks.share(x), Checks.NO_SHARE);
        Checks.alike("17: share() that throws, behind it", Readout.of(x), QUIET);
        JavaBridge y = Scene.busy();
        Checks.due("17: 14 by 3, cut", Checks.share(y), 4);
        Checks.alike("17: share(), behind it", Readout.of(y), BUSY);
    }

    /** Calls that only tell something leave all as it is. */
    private static void looking() {
        changesNothing("4: kind", 4, x -> x.kind(Scene.CELL));
        changesNothing("5: value of a number", 5, x -> x.value(Scene.LONG));
        changesNothing("5: value of an OBJECT", NOTHING, x -> x.value(Scene.CELL));
        changesNothing("5: value of NOTHING", NOTHING, x -> x.value(Scene.EMPTY));
        changesNothing("6: same", 1, x -> x.same(Scene.TWICE, Scene.SAME_TWICE));
        changesNothing("7: cell", 0, x -> x.cell(Scene.INTS, 1));
        changesNothing("9: members", 11, x -> x.members(1));
        changesNothing("10: member", 5, x -> x.member(1, 10, 2));
        changesNothing("12: word", 2, x -> x.word(Scene.PUT_COPY, 3));
        changesNothing("3: a place gets what it holds", 4, x -> x.move(Scene.CELL, Scene.CELL));
        changesNothing("3: NOTHING gets NOTHING", 0, x -> x.move(Scene.EMPTY, -1));
    }

    /** 'THROWS 2, 1, 3': a throw of cell() and set() is told by latest(), and by nothing else. */
    private static void throwsOfCellAndSet() {
        for (int place = 0; place < 10; place++) {
            int p = place;
            if (place != Scene.INTS) {
                int thrown = place == Scene.EMPTY ? 1 : 2;
                changesLatestAlone("7: cell of place " + p, NOTHING, thrown, x -> x.cell(p, 0));
                changesLatestAlone("7: cell of place " + p + ", ahead of an index", NOTHING, thrown, x -> x.cell(p, -1));
                changesLatestAlone("8: set of place " + p, -10 - thrown, thrown, x -> x.set(p, 0, 4));
                changesLatestAlone("8: set of place " + p + ", ahead of an index", -10 - thrown, thrown, x -> x.set(p, 16, 4));
            }
        }
        for (int i : new int[] {-1, 3, MIN, MAX}) {
            changesLatestAlone("7: cell " + i + " of 3", NOTHING, 3, x -> x.cell(Scene.INTS, i));
            changesLatestAlone("8: cell " + i + " of 3", -13, 3, x -> x.set(Scene.INTS, i, 4));
        }
    }

    /** What a word throws is no refusal: it counts, it starts its class, and the place stays as it is. */
    private static void throwsOfWords() {
        JavaBridge x = Scene.quiet();
        Checks.due("13: on nothing", x.call(Scene.SELF, Scene.EMPTY, 0, 0, Scene.LONG), -11);
        Checks.due("12: it was called", x.word(Scene.SELF, 4), 1);
        Checks.due("12: it threw", x.word(Scene.SELF, 5), 1);
        Checks.due("15: latest", x.latest(), 1);
        Checks.due("16: CLASS 0 first", x.started(0), 2);
        Checks.due("16: CLASS 1 then", x.started(1), 3);
        Checks.due("17: 6 by 1", Checks.share(x), 6);
        Checks.due("13: nothing goes into the place", x.value(Scene.LONG), 5);
        Checks.due("13: nor another kind", x.kind(Scene.LONG), 2);
    }

    /** Some hundred refusals on one bridge do not add up to something. */
    private static void allOnOneBridge() {
        JavaBridge x = Scene.busy();
        for (int no : OUTSIDE_TEN) {
            for (int kind = 4; kind < 9; kind++) {
                Checks.due("2: number", x.number(no, kind, kind), -1);
                Checks.due("2: number", x.number(kind, kind, kind), -2);
                Checks.due("11: declare", x.declare(kind, 0, 0, kind, 0, 1, 0), -3);
                Checks.due("13: call", x.call(Scene.ADD, kind, Scene.LONG, 0, 0), -3);
                Checks.due("13: call", x.call(Scene.DIVIDE, Scene.CELL, no, 0, 0), -1);
                Checks.due("14: row", x.row(kind, 11, 0, 0, 0, 0), -2);
            }
        }
        Checks.alike("REFUSALS: 120 of them, behind them", Readout.of(x), BUSY);
    }
}
