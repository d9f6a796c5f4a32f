/**
 * Promises 1 to 8 and the sentences of 'Terms' on places and KINDS: at each bound, and within it. What lies outside is
 * refused, and stands in RefusalsTest. A method's comment is the document's sentence.
 */
public final class PlaceBoundsTest {
    private static final long NOTHING = Long.MIN_VALUE;
    private static final int MIN = Integer.MIN_VALUE;
    private static final int MAX = Integer.MAX_VALUE;
    private static final int[] ENDS = {0, 9};

    public static void main(String[] args) {
        newObject();
        newObjectsApart();
        numberOfInts();
        numberOfLongs();
        numberOfReals();
        numberInPlaceOfAll();
        moveOfNothing();
        moveOfAll();
        moveToAll();
        kinds();
        valueOfNothing();
        sameOfNothing();
        sameOfNumbers();
        sameOfObjects();
        cellOfEmptyAndFull();
        setOfEmptyAndFull();
        setOfShared();
        castOfCellAndSet();
        Checks.finish("PlaceBoundsTest");
    }

    /** 1: All places hold NOTHING, no WORDS; no CLASS has STARTED. */
    private static void newObject() {
        JavaBridge x = new JavaBridge();
        for (int place = 0; place < 10; place++) {
            Checks.due("1: kind(" + place + ")", x.kind(place), 0);
            Checks.due("1: value(" + place + ")", x.value(place), NOTHING);
            Checks.due("1: word(" + place + ", 0)", x.word(place, 0), -1);
            for (int other = 0; other < 10; other++) {
                Checks.due("1: same(" + place + ", " + other + ")", x.same(place, other), 1);
            }
        }
        for (int cls = 0; cls < 4; cls++) {
            Checks.due("1: started(" + cls + ")", x.started(cls), 0);
        }
        Checks.due("1: a row of no words", x.row(0, 10, 0, 0, 0, 0), 0);
        Checks.due("1: latest()", x.latest(), 0);
        Checks.due("1: share()", Checks.share(x), Checks.NO_SHARE);
    }

    /** What is done to one bridge is not seen in another, nor in one that is made later. */
    private static void newObjectsApart() {
        JavaBridge before = new JavaBridge();
        String fresh = Readout.of(new JavaBridge());
        Scene.busy();
        Checks.alike("1: made before a busy one", Readout.of(before), fresh);
        Checks.alike("1: made behind a busy one", Readout.of(new JavaBridge()), fresh);
    }

    /** 2: A place gets a number of a KIND 1 .. an INT that is none. */
    private static void numberOfInts() {
        JavaBridge x = new JavaBridge();
        for (int place : ENDS) {
            for (int v : new int[] {MIN, MIN + 1, -1, 0, 1, MAX - 1, MAX}) {
                Checks.due("2: the INT " + v, x.number(place, 1, v), 1);
                Checks.due("2: its kind", x.kind(place), 1);
                Checks.due("5: its value", x.value(place), v);
            }
            Checks.due("2: just above", x.number(place, 1, MAX + 1L), -2);
            Checks.due("2: just below", x.number(place, 1, MIN - 1L), -2);
            Checks.due("5: the value stays", x.value(place), MAX);
        }
    }

    /** 2: A place gets a number of a KIND .. 2. The least LONG is told as NOTHING is, but is a LONG. */
    private static void numberOfLongs() {
        JavaBridge x = new JavaBridge();
        for (int place : ENDS) {
            for (long v : new long[] {Long.MIN_VALUE + 1, MIN - 1L, -1, 0, MAX + 1L, Long.MAX_VALUE, Long.MIN_VALUE}) {
                Checks.due("2: the LONG " + v, x.number(place, 2, v), 1);
                Checks.due("2: its kind", x.kind(place), 2);
                Checks.due("5: its value", x.value(place), v);
            }
            Checks.due("6: the least LONG, NOTHING", x.same(place, 5), 0);
            Checks.due("6: NOTHING, the least LONG", x.same(5, place), 0);
        }
        Checks.due("6: the least LONG twice", x.same(0, 9), 1);
        Checks.due("3: the least LONG goes as a LONG", x.move(5, 0), 2);
    }

    private static void realIs(JavaBridge x, int place, long v, long bits) {
        Checks.due("2: the REAL " + v, x.number(place, 3, v), 1);
        Checks.due("2: its kind", x.kind(place), 3);
        Checks.due("5: bits of the REAL " + v, x.value(place), bits);
    }

    /** 2: (3: that, cast to a double). 5: bits of the REAL. */
    private static void numberOfReals() {
        JavaBridge x = new JavaBridge();
        for (int place : ENDS) {
            realIs(x, place, 0, 0L);
            realIs(x, place, 1, 0x3ff0000000000000L);
            realIs(x, place, -1, 0xbff0000000000000L);
            realIs(x, place, 2, 0x4000000000000000L);
            realIs(x, place, 3, 0x4008000000000000L);
            realIs(x, place, MAX, 0x41dfffffffc00000L);
            realIs(x, place, MAX + 1L, 0x41e0000000000000L);
            realIs(x, place, MIN, 0xc1e0000000000000L);
            realIs(x, place, (1L << 53) - 1, 0x433fffffffffffffL);
            realIs(x, place, 1L << 53, 0x4340000000000000L);
            realIs(x, place, (1L << 53) + 1, 0x4340000000000000L);
            realIs(x, place, (1L << 53) + 2, 0x4340000000000001L);
            realIs(x, place, (1L << 53) + 3, 0x4340000000000002L);
            realIs(x, place, -(1L << 53) - 1, 0xc340000000000000L);
            realIs(x, place, Long.MAX_VALUE - 512, 0x43dfffffffffffffL);
            realIs(x, place, Long.MAX_VALUE - 511, 0x43e0000000000000L);
            realIs(x, place, Long.MAX_VALUE, 0x43e0000000000000L);
            realIs(x, place, Long.MIN_VALUE, 0xc3e0000000000000L);
            realIs(x, place, Long.MIN_VALUE + 1, 0xc3e0000000000000L);
        }
    }

    /** 2: A place gets a number, whatever it holds. */
    private static void numberInPlaceOfAll() {
        for (int place = 0; place < 10; place++) {
            JavaBridge x = Scene.busy();
            for (int kind = 1; kind <= 3; kind++) {
                Checks.due("2: over what place " + place + " holds", x.number(place, kind, 0), 1);
                Checks.due("4: its kind", x.kind(place), kind);
                Checks.due("5: its value", x.value(place), 0);
            }
        }
    }

    /** 3: A place gets what another one holds (-1: NOTHING). */
    private static void moveOfNothing() {
        for (int place = 0; place < 10; place++) {
            JavaBridge x = Scene.busy();
            Checks.due("3: NOTHING by -1", x.move(place, -1), 0);
            Checks.due("4: its kind", x.kind(place), 0);
            Checks.due("5: its value", x.value(place), NOTHING);
            JavaBridge y = Scene.busy();
            Checks.due("3: NOTHING by a place that holds it", y.move(place, Scene.EMPTY), 0);
            Checks.due("6: both NOTHING", y.same(place, Scene.EMPTY), 1);
        }
    }

    /** 3: A place gets what another one holds: its KIND. */
    private static void moveOfAll() {
        int[] kinds = {1, 4, 5, 6, 6, 7, 0, 5, 2, 3};
        for (int from = 0; from < 10; from++) {
            JavaBridge x = Scene.busy();
            for (int place = 0; place < 10; place++) {
                Checks.due("3: move(" + place + ", " + from + ")", x.move(place, from), kinds[from]);
                Checks.due("6: both the same", x.same(place, from), 1);
                Checks.due("4: its kind", x.kind(place), kinds[from]);
            }
        }
    }

    /** PLACES hold .. an OBJECT; several may hold the same one. All ten do. */
    private static void moveToAll() {
        JavaBridge x = new JavaBridge();
        Bench.make(x, Bench.INTS, 1, 0);
        for (int place = 1; place < 10; place++) {
            x.move(place, place - 1);
        }
        Checks.due("8: set by the last", x.set(9, 0, 5), 1);
        for (int place = 0; place < 10; place++) {
            Checks.due("7: seen by each", x.cell(place, 0), 5);
            Checks.due("6: the very same", x.same(place, 9 - place), 1);
        }
        x.move(0, -1);
        Checks.due("7: the others hold it still", x.cell(1, 0), 5);
    }

    /** 4: Its KIND (0: NOTHING; of OBJECTS 4 to 7). */
    private static void kinds() {
        JavaBridge x = Scene.busy();
        int[] kinds = {1, 4, 5, 6, 6, 7, 0, 5, 2, 3};
        for (int place = 0; place < 10; place++) {
            Checks.due("4: kind(" + place + ")", x.kind(place), kinds[place]);
        }
        x.declare(0, 0, 8, 8, 0, 0, 0);
        x.declare(1, 0, 9, 0, 0, 8, 0);
        x.call(0, Scene.CELL, Scene.INTS, 0, 0);
        Checks.due("4: what comes as ANY is of its own KIND", x.call(1, Scene.CELL, 0, 0, 0), 7);
        Checks.due("4: and is told so", x.kind(0), 7);
        x.call(0, Scene.CELL, Scene.TWICE, 0, 0);
        x.declare(1, 0, 9, 0, 0, 4, 0);
        Checks.due("4: a TWICE that comes as a CELL is a TWICE", x.call(1, Scene.CELL, 0, 0, 0), 5);
        Checks.due("4: and is told so", x.kind(0), 5);
    }

    /** 5: NOTHING: also an OBJECT, NOTHING. */
    private static void valueOfNothing() {
        JavaBridge x = Scene.busy();
        long[] values = {1, NOTHING, NOTHING, NOTHING, NOTHING, NOTHING, NOTHING, NOTHING, 5, 0x4018000000000000L};
        for (int place = 0; place < 10; place++) {
            Checks.due("5: value(" + place + ")", x.value(place), values[place]);
        }
    }

    /** 6: or both NOTHING. */
    private static void sameOfNothing() {
        JavaBridge x = Scene.busy();
        for (int place = 0; place < 10; place++) {
            int want = place == Scene.EMPTY ? 1 : 0;
            Checks.due("6: same(" + place + ", NOTHING)", x.same(place, Scene.EMPTY), want);
            Checks.due("6: same(NOTHING, " + place + ")", x.same(Scene.EMPTY, place), want);
            Checks.due("6: same(" + place + ", itself)", x.same(place, place), 1);
        }
        for (int kind = 1; kind <= 3; kind++) {
            x.number(0, kind, 0);
            Checks.due("6: a 0 is not NOTHING", x.same(0, Scene.EMPTY), 0);
        }
        x.declare(0, 3, 6, 8, 0, 5, 1);
        x.call(0, 0, Scene.EMPTY, 0, 0);
        Checks.due("6: NOTHING that came of a call, NOTHING", x.same(0, Scene.EMPTY), 1);
        x.number(1, 1, 5);
        x.move(1, -1);
        Checks.due("6: NOTHING that came of a call, NOTHING by move", x.same(0, 1), 1);
    }

    /** 6: or like numbers of one KIND (of REALS by bits). */
    private static void sameOfNumbers() {
        JavaBridge x = new JavaBridge();
        for (int kind = 1; kind <= 3; kind++) {
            for (int other = 1; other <= 3; other++) {
                for (int v : new int[] {MIN, -1, 0, 1, MAX}) {
                    x.number(0, kind, v);
                    x.number(9, other, v);
                    Checks.due("6: like numbers of " + kind + ", " + other, x.same(0, 9), kind == other ? 1 : 0);
                }
            }
            x.number(0, kind, 7);
            x.number(9, kind, 8);
            Checks.due("6: numbers one apart", x.same(0, 9), 0);
        }
        x.number(0, 2, 1L << 32);
        x.number(9, 2, 0);
        Checks.due("6: LONGS alike in their lower half", x.same(0, 9), 0);
        x.number(0, 3, Long.MAX_VALUE);
        x.number(9, 3, Long.MAX_VALUE - 511);
        Checks.due("6: REALS of one's bits", x.same(0, 9), 1);
        x.number(9, 3, Long.MAX_VALUE - 512);
        Checks.due("6: REALS a bit apart", x.same(0, 9), 0);
    }

    /** 6: Whether two places hold the very same OBJECT. */
    private static void sameOfObjects() {
        JavaBridge x = Scene.busy();
        Checks.due("6: the very same", x.same(Scene.TWICE, Scene.SAME_TWICE), 1);
        for (int place = Scene.CELL; place <= Scene.INTS; place++) {
            for (int other = Scene.CELL; other <= Scene.INTS; other++) {
                Checks.due("6: same(" + place + ", " + other + ")", x.same(place, other), place == other ? 1 : 0);
            }
        }
        for (int what = 0; what < 5; what++) {
            Bench.make(x, what, 0, 0);
            Bench.make(x, what, 0, 6);
            Checks.due("6: made alike, with no cells", x.same(0, 6), 0);
        }
    }

    /** 7: Cell i of INTS .. THROWS .. 3 (it is NOTHING, too; latest() tells). */
    private static void cellOfEmptyAndFull() {
        for (int length : new int[] {0, 1, 15, 16, 17}) {
            int size = length > 16 ? 16 : length;
            for (int place : ENDS) {
                JavaBridge x = new JavaBridge();
                Bench.make(x, Bench.INTS, length, place);
                for (int i = 0; i < size; i++) {
                    Checks.due("7: cell " + i + " of " + length, x.cell(place, i), 0);
                    Checks.due("15: nothing thrown", x.latest(), 0);
                }
                for (int i : new int[] {-1, size, MIN, MAX}) {
                    x.cell(5, 0);
                    Checks.due("15: 1 thrown", x.latest(), 1);
                    Checks.due("7: cell " + i + " of " + length, x.cell(place, i), NOTHING);
                    Checks.due("15: 3 thrown", x.latest(), 3);
                }
            }
        }
    }

    /** 8: Cell i of INTS becomes v: 1. THROWS .. 3. */
    private static void setOfEmptyAndFull() {
        for (int length : new int[] {0, 1, 16, 17}) {
            int size = length > 16 ? 16 : length;
            JavaBridge x = new JavaBridge();
            Bench.make(x, Bench.INTS, length, 0);
            for (int i = 0; i < size; i++) {
                Checks.due("8: cell " + i + " of " + length, x.set(0, i, i % 2 == 0 ? MIN : MAX), 1);
            }
            for (int i : new int[] {-1, size, MIN, MAX}) {
                Checks.due("8: cell " + i + " of " + length, x.set(0, i, 3), -13);
            }
            for (int i = 0; i < size; i++) {
                Checks.due("7: cell " + i + " of " + length, x.cell(0, i), i % 2 == 0 ? MIN : MAX);
            }
        }
    }

    /** Rows that are shared: through each place and through what keeps them. */
    private static void setOfShared() {
        JavaBridge x = Scene.busy();
        x.declare(0, 0, 9, 0, 0, 7, 0);
        Checks.due("9: kept", x.call(0, Scene.CELL, 0, 0, 0), 7);
        Checks.due("8: set through what was kept", x.set(0, 1, 4), 1);
        Checks.due("7: seen where it was made", x.cell(Scene.INTS, 1), 4);
    }

    /** 7, 8: (CAST to these) .. THROWS 2, 1: of an empty place, of numbers, of each OBJECT. */
    private static void castOfCellAndSet() {
        int[] thrown = {2, 2, 2, 2, 2, 0, 1, 2, 2, 2};
        JavaBridge x = Scene.busy();
        for (int place = 0; place < 10; place++) {
            if (thrown[place] != 0) {
                x.set(Scene.INTS, 3, 0);
                Checks.due("7: cell(" + place + ", 0)", x.cell(place, 0), NOTHING);
                Checks.due("15: thrown", x.latest(), thrown[place]);
                x.set(Scene.INTS, 3, 0);
                Checks.due("8: set(" + place + ", 0, 1)", x.set(place, 0, 1), -10 - thrown[place]);
                Checks.due("15: thrown", x.latest(), thrown[place]);
            }
        }
    }
}
