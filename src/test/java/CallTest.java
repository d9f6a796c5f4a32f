/** Promise 13: a call of a word, each member of the host by itself. */
public final class CallTest {
    private static final int MIN = Integer.MIN_VALUE;
    private static final int MAX = Integer.MAX_VALUE;

    public static void main(String[] args) {
        refusals();
        placesNotLookedAt();
        kindsThatGoIn();
        numbersOfCells();
        edgesOfNumbers();
        division();
        putIntoRows();
        copies();
        keeping();
        castsOfWhatComes();
        selfAndSame();
        shelves();
        shelvesOfTwices();
        sums();
        firsts();
        lengths();
        made();
        as();
        whatWasDoneStays();
        Checks.finish("CallTest");
    }

    private static JavaBridge withInts(int... numbers) {
        JavaBridge x = new JavaBridge();
        for (int i = 0; i < numbers.length; i++) {
            x.number(i, 1, numbers[i]);
        }
        return x;
    }

    /** A member that takes one thing or none: called, and the number that came. */
    private static void comes(JavaBridge x, String what, int cls, int m, int on, int a, long want) {
        x.move(7, -1);
        Checks.due("13: " + what + " comes", Bench.run(x, cls, m, on, a, 0, 7), x.member(cls, m, 2));
        Checks.due("13: " + what, x.value(7), want);
    }

    private static void refusals() {
        JavaBridge x = withInts(3);
        Bench.make(x, Bench.CELL, 5, 1);
        x.declare(0, 2, 0, 1, 4, 0, 0);
        for (int word : new int[] {-1, 1, 10, MIN, MAX}) {
            Checks.due("13: word " + word, x.call(word, 1, 1, 1, 1), -1);
        }
        Bench.make(x, Bench.SHELF, 5, 2);
        for (int place : new int[] {-1, 10, MIN, MAX}) {
            Checks.due("13: on " + place, x.call(0, place, 0, 1, 3), -1);
            Checks.due("13: a " + place, x.call(0, 2, place, 1, 3), -1);
            Checks.due("13: b " + place, x.call(0, 2, 0, place, 3), -1);
            Checks.due("13: to " + place, x.call(0, 2, 0, 1, place), -1);
            Checks.due("13: -1 ahead of -3", x.call(0, 1, 1, 0, place), -1);
            Checks.due("13: -1 ahead of a throw", x.call(0, 5, 0, 1, place), -1);
        }
        Checks.due("13: on a cell", x.call(0, 1, 0, 1, 3), -3);
        Checks.due("13: on an int", x.call(0, 0, 0, 1, 3), -3);
        Checks.due("13: a is a cell", x.call(0, 2, 1, 1, 3), -3);
        Checks.due("13: a is nothing", x.call(0, 2, 6, 1, 3), -3);
        Checks.due("13: b is an int", x.call(0, 2, 0, 0, 3), -3);
        Checks.due("13: b is a shelf", x.call(0, 2, 0, 2, 3), -3);
        Checks.due("13: -3 ahead of a throw", x.call(0, 6, 6, 1, 3), -3);
        Checks.due("13: no refusal is a call", x.word(0, 4), 0);
        Checks.due("13: no refusal throws", x.latest(), 0);
        Checks.due("13: no refusal starts", x.started(2), 0);
        Checks.due("13: it goes", x.call(0, 2, 0, 1, 3), 0);
    }

    private static void placesNotLookedAt() {
        JavaBridge x = withInts(3);
        x.declare(0, 3, 0, 1, 0, 4, 0);
        Checks.due("13: on and b are not looked at", x.call(0, -9, 0, 99, 1), 4);
        Checks.due("13: on may hold an int", x.call(0, 0, 0, 0, 1), 4);
        x.declare(1, 0, 0, 0, 0, 1, 0);
        Checks.due("13: a and b are not looked at", x.call(1, 1, MIN, MAX, 2), 1);
        x.declare(2, 0, 1, 1, 0, 0, 0);
        Checks.due("13: to is looked at, of a unit too", x.call(2, 1, 0, 0, 10), -1);
        x.number(4, 3, 8);
        Checks.due("13: a unit", x.call(2, 1, 0, 0, 4), 0);
        Checks.due("13: the place stays", x.kind(4), 3);
    }

    private static void kindsThatGoIn() {
        JavaBridge x = withInts(3);
        for (int what = 0; what < 5; what++) {
            Bench.make(x, what, 3, 1 + what);
        }
        x.number(6, 2, 3);
        x.number(7, 3, 3);
        x.declare(0, 0, 1, 1, 0, 0, 0);
        x.declare(1, 0, 6, 8, 0, 1, 0);
        x.declare(2, 0, 7, 7, 0, 1, 2);
        x.declare(3, 2, 0, 1, 4, 0, 0);
        x.number(9, 1, 0);
        int[] asInt = {0, -3, -3, -3, -3, -3, -3, -3, -3};
        int[] asAny = {-3, 1, 1, 1, 1, 1, -3, -3, 1};
        int[] asInts = {-3, -3, -3, -3, -3, -13, -3, -3, -11};
        int[] asCell = {-3, 0, 0, -3, -3, -3, -3, -3, 0};
        for (int p = 0; p < 9; p++) {
            x.move(8, -1);
            Checks.due("13: as an INT place " + p, x.call(0, 1, p, 0, 8), asInt[p]);
            x.move(8, -1);
            Checks.due("13: as ANY place " + p, x.call(1, 1, p, 0, 8), asAny[p]);
            x.move(8, -1);
            Checks.due("13: as INTS place " + p, x.call(2, 1, p, 0, 8), asInts[p]);
            x.move(8, -1);
            Checks.due("13: as a CELL place " + p, x.call(3, 3, 9, p, 8), asCell[p]);
        }
    }

    private static void numbersOfCells() {
        JavaBridge x = withInts(3, -10);
        Bench.make(x, Bench.CELL, 7, 2);
        Bench.make(x, Bench.TWICE, 7, 3);
        comes(x, "get", 0, 0, 2, 0, 7);
        comes(x, "get of a twice", 0, 0, 3, 0, 14);
        comes(x, "get of a twice by its class", 1, 0, 3, 0, 14);
        comes(x, "add", 0, 2, 2, 0, 10);
        comes(x, "add of a twice", 1, 2, 3, 0, 20);
        comes(x, "wide", 0, 4, 2, 0, 10000000070L);
        comes(x, "wide of a twice", 1, 4, 3, 0, 20000000140L);
        comes(x, "half", 0, 5, 2, 0, Double.doubleToLongBits(5.0));
        comes(x, "half of a twice", 0, 5, 3, 0, Double.doubleToLongBits(10.0));
        comes(x, "add below", 0, 2, 2, 1, 0);
        comes(x, "half of 0", 0, 5, 2, 0, 0);
        Checks.due("13: set", Bench.run(x, 0, 1, 2, 1, 0, 7), 0);
        comes(x, "get then", 0, 0, 2, 0, -10);
        Checks.due("13: set of a twice", Bench.run(x, 1, 1, 3, 0, 0, 7), 0);
        comes(x, "get then", 1, 0, 3, 0, 6);
        Checks.due("13: set to odd", Bench.run(x, 0, 1, 2, 0, 0, 7), 0);
        comes(x, "half of 3", 0, 5, 2, 0, Double.doubleToLongBits(1.5));
        Checks.due("13: a cell by the class of twices", Bench.run(x, 1, 0, 2, 0, 0, 7), -3);
    }

    private static void edgesOfNumbers() {
        for (int v : new int[] {MIN, MIN + 1, -3, -1, 0, 1, 3, 1 << 30, MAX - 1, MAX}) {
            JavaBridge x = withInts(MAX, MIN, 1, -1);
            Bench.make(x, Bench.CELL, v, 4);
            Bench.make(x, Bench.TWICE, v, 5);
            comes(x, "get", 0, 0, 4, 0, v);
            comes(x, "get of a twice", 0, 0, 5, 0, 2 * v);
            comes(x, "wide", 0, 4, 4, 0, v * 1000000007L);
            comes(x, "wide of a twice", 0, 4, 5, 0, (2 * v) * 1000000007L);
            comes(x, "half", 0, 5, 4, 0, Double.doubleToLongBits(v / 2.0));
            comes(x, "half of a twice", 0, 5, 5, 0, Double.doubleToLongBits((2 * v) / 2.0));
            comes(x, "add the greatest", 0, 2, 4, 0, v + MAX);
            comes(x, "add the least", 0, 2, 5, 1, 2 * (v + MIN));
        }
    }

    private static void division() {
        JavaBridge x = withInts(2, -2, 0, -1);
        Bench.make(x, Bench.CELL, 7, 4);
        Bench.make(x, Bench.TWICE, -7, 5);
        comes(x, "7 by 2", 0, 3, 4, 0, 3);
        comes(x, "7 by -2", 0, 3, 4, 1, -3);
        comes(x, "-14 by -1", 0, 3, 5, 3, 14);
        x.number(7, 2, 77);
        Checks.due("13: by 0", Bench.run(x, 0, 3, 4, 2, 0, 7), -14);
        Checks.due("13: nothing goes into the place", x.value(7), 77);
        Checks.due("13: by 0 of a twice", Bench.run(x, 1, 3, 5, 2, 0, 7), -14);
        Bench.make(x, Bench.CELL, MIN, 4);
        comes(x, "the least by -1", 0, 3, 4, 3, MIN);
        Bench.make(x, Bench.CELL, -7, 4);
        comes(x, "-7 by 2", 0, 3, 4, 0, -3);
    }

    private static void putIntoRows() {
        JavaBridge x = withInts(2, 3, -1);
        Bench.make(x, Bench.INTS, 3, 3);
        Bench.make(x, Bench.TWICE, 2, 4);
        comes(x, "put of a twice is V", 0, 7, 4, 3, 2);
        Checks.due("13: the cell is get()", x.cell(3, 2), 4);
        Checks.due("13: the others stay", x.cell(3, 0), 0);
        Bench.make(x, Bench.CELL, 1, 5);
        comes(x, "put of a cell", 0, 7, 5, 3, 1);
        Checks.due("13: the cell", x.cell(3, 1), 1);
        Checks.due("13: no row", Bench.run(x, 0, 7, 4, 8, 0, 7), -11);
        Bench.run(x, 0, 1, 4, 1, 0, 7);
        Checks.due("13: above", Bench.run(x, 0, 7, 4, 3, 0, 7), -13);
        Checks.due("13: no row, above", Bench.run(x, 0, 7, 4, 8, 0, 7), -11);
        Bench.run(x, 0, 1, 4, 2, 0, 7);
        Checks.due("13: below", Bench.run(x, 1, 7, 4, 3, 0, 7), -13);
        Checks.due("13: on nothing", Bench.run(x, 0, 7, 8, 3, 0, 7), -11);
    }

    private static void copies() {
        JavaBridge x = withInts(5);
        Bench.make(x, Bench.INTS, 3, 1);
        Bench.make(x, Bench.TWICE, 1, 2);
        x.declare(0, 0, 7, 7, 0, 1, 2);
        Checks.due("13: put into a twin", x.call(0, 2, 1, 0, 3), 1);
        Checks.due("13: V comes", x.value(3), 1);
        Checks.due("13: the row stays", x.cell(1, 1), 0);
        Checks.due("13: no row has no twin", x.call(0, 2, 4, 0, 3), -11);
        Bench.run(x, 0, 1, 2, 0, 0, 3);
        Checks.due("13: the twin is as long", x.call(0, 2, 1, 0, 3), -13);
        comes(x, "a twin is not made by the maker", 3, 5, 0, 0, 2);
        Bench.make(x, Bench.SHELF, 2, 4);
        Bench.make(x, Bench.CELL, 8, 6);
        x.declare(1, 2, 0, 1, 4, 0, 0);
        x.number(9, 1, 0);
        x.call(1, 4, 9, 2, 7);
        x.number(9, 1, 1);
        x.call(1, 4, 9, 6, 7);
        x.set(1, 0, 8);
        x.declare(0, 2, 4, 7, 0, 1, 6);
        Checks.due("13: a twin holds the same", x.call(0, 4, 1, 0, 3), 1);
        Checks.due("13: first", x.value(3), 1);
    }

    private static void keeping() {
        JavaBridge x = withInts(1);
        for (int what = 0; what < 5; what++) {
            Bench.make(x, what, 2, 1 + what);
        }
        int[] kinds = {4, 5, 6, 6, 7};
        x.declare(0, 0, 8, 8, 0, 0, 0);
        x.declare(1, 0, 9, 0, 0, 8, 0);
        x.declare(2, 0, 9, 0, 0, 8, 1);
        x.number(6, 1, 44);
        Checks.due("13: kept nothing", x.call(1, 1, 0, 0, 6), -11);
        Checks.due("13: nothing goes into the place", x.value(6), 44);
        for (int what = 0; what < 5; what++) {
            Checks.due("13: keep", x.call(0, 1, 1 + what, 0, 6), 0);
            Checks.due("13: kept", x.call(1, 1, 0, 0, 6), kinds[what]);
            Checks.due("13: it is that", x.same(6, 1 + what), 1);
            Checks.due("13: kept, may", x.call(2, 1, 0, 0, 6), kinds[what]);
        }
        Checks.due("13: the twice keeps by itself", x.call(1, 2, 0, 0, 6), -11);
        Checks.due("13: keep nothing", x.call(0, 1, 8, 0, 6), 0);
        Checks.due("13: nothing, may", x.call(2, 1, 0, 0, 6), 0);
        Checks.due("13: nothing goes into the place then", x.kind(6), 0);
        Checks.due("13: keep a number", x.call(0, 1, 0, 0, 6), -3);
        Checks.due("13: keep on nothing", x.call(0, 8, 1, 0, 6), -11);
        Bench.make(x, Bench.INTS, 2, 5);
        x.call(0, 1, 5, 0, 6);
        x.call(1, 1, 0, 0, 6);
        x.set(6, 1, 5);
        Checks.due("13: rows are shared", x.cell(5, 1), 5);
    }

    private static void castsOfWhatComes() {
        JavaBridge x = withInts(1);
        x.declare(0, 0, 8, 8, 0, 0, 0);
        int[] made = {4, 5, 6, 6, 7};
        for (int what = 0; what < 5; what++) {
            Bench.make(x, what, 2, 1);
            Bench.make(x, Bench.CELL, 2, 2);
            x.call(0, 2, 1, 0, 6);
            for (int out = 4; out <= 8; out++) {
                boolean is = out == 8 || out == made[what] || out == 4 && made[what] == 5;
                for (int marks = 0; marks < 2; marks++) {
                    x.declare(1, 0, 9, 0, 0, out, marks);
                    x.move(6, -1);
                    Checks.due("13: " + made[what] + " as " + out, x.call(1, 2, 0, 0, 6), is ? made[what] : -12);
                    Checks.due("13: in the place", x.kind(6), is ? made[what] : 0);
                }
            }
        }
        x.declare(2, 3, 0, 1, 0, 5, 1);
        Checks.due("13: a new cell as a twice", x.call(2, 0, 0, 0, 6), -12);
        comes(x, "it was made all the same", 3, 5, 0, 0, 11);
    }

    private static void selfAndSame() {
        JavaBridge x = withInts(1);
        Bench.make(x, Bench.CELL, 2, 1);
        Bench.make(x, Bench.TWICE, 2, 2);
        Checks.due("13: self", Bench.run(x, 1, 10, 2, 0, 0, 3), 5);
        Checks.due("13: it", x.same(2, 3), 1);
        Checks.due("13: self of a cell", Bench.run(x, 1, 10, 1, 0, 0, 3), -3);
        Checks.due("13: self of nothing", Bench.run(x, 1, 10, 8, 0, 0, 3), -11);
        comes(x, "same", 0, 6, 1, 1, 1);
        comes(x, "same, another", 0, 6, 1, 2, 0);
        comes(x, "same, through another place", 1, 6, 2, 3, 1);
        comes(x, "same, nothing", 0, 6, 1, 8, 0);
        Checks.due("13: same of nothing", Bench.run(x, 0, 6, 8, 8, 0, 3), -11);
    }

    private static void shelves() {
        JavaBridge x = withInts(0, 1, 2, -1);
        Bench.make(x, Bench.SHELF, 2, 4);
        Bench.make(x, Bench.CELL, 2, 5);
        Bench.make(x, Bench.TWICE, 2, 6);
        comes(x, "size", 2, 2, 4, 0, 2);
        Checks.due("13: at first", Bench.run(x, 2, 1, 4, 0, 0, 7), -11);
        Checks.due("13: put a cell", Bench.run(x, 2, 0, 4, 0, 5, 7), 0);
        Checks.due("13: put a twice", Bench.run(x, 2, 0, 4, 1, 6, 7), 0);
        Checks.due("13: at 0", Bench.run(x, 2, 1, 4, 0, 0, 7), 4);
        Checks.due("13: it", x.same(5, 7), 1);
        Checks.due("13: at 1", Bench.run(x, 2, 1, 4, 1, 0, 7), 5);
        Checks.due("13: it", x.same(6, 7), 1);
        Checks.due("13: put above", Bench.run(x, 2, 0, 4, 2, 5, 7), -13);
        Checks.due("13: put below", Bench.run(x, 2, 0, 4, 3, 5, 7), -13);
        Checks.due("13: at above", Bench.run(x, 2, 1, 4, 2, 0, 7), -13);
        Checks.due("13: at below", Bench.run(x, 2, 1, 4, 3, 0, 7), -13);
        Checks.due("13: put nothing", Bench.run(x, 2, 0, 4, 0, 8, 7), 0);
        Checks.due("13: nothing there", Bench.run(x, 2, 1, 4, 0, 0, 7), -11);
        x.declare(0, 2, 1, 1, 0, 4, 1);
        Checks.due("13: nothing may come", x.call(0, 4, 0, 0, 7), 0);
        Checks.due("13: nothing came", x.kind(7), 0);
        x.declare(0, 2, 1, 1, 0, 5, 0);
        Checks.due("13: a twice as told", x.call(0, 4, 1, 0, 7), 5);
        Bench.run(x, 2, 0, 4, 0, 5, 7);
        Checks.due("13: a cell is no twice", x.call(0, 4, 0, 0, 7), -12);
        Checks.due("13: size of nothing", Bench.run(x, 2, 2, 8, 0, 0, 7), -11);
    }

    private static void shelvesOfTwices() {
        JavaBridge x = withInts(0, 1, 2, -1);
        Bench.make(x, Bench.TWICE_SHELF, 2, 4);
        Bench.make(x, Bench.CELL, 2, 5);
        Bench.make(x, Bench.TWICE, 2, 6);
        comes(x, "size", 2, 2, 4, 0, 2);
        Checks.due("13: put a twice", Bench.run(x, 2, 0, 4, 0, 6, 7), 0);
        Checks.due("13: put a cell", Bench.run(x, 2, 0, 4, 0, 5, 7), -15);
        Checks.due("13: the twice stays", Bench.run(x, 2, 1, 4, 0, 0, 7), 5);
        Checks.due("13: an index ahead of a store", Bench.run(x, 2, 0, 4, 2, 5, 7), -13);
        Checks.due("13: below ahead of a store", Bench.run(x, 2, 0, 4, 3, 5, 7), -13);
        Checks.due("13: put nothing", Bench.run(x, 2, 0, 4, 0, 8, 7), 0);
        Checks.due("13: nothing there", Bench.run(x, 2, 1, 4, 0, 0, 7), -11);
    }

    private static void sums() {
        JavaBridge x = withInts(0, 1, MAX);
        Bench.make(x, Bench.SHELF, 0, 3);
        comes(x, "sum of none", 2, 3, 3, 0, 0);
        Bench.make(x, Bench.SHELF, 2, 3);
        Bench.make(x, Bench.CELL, 5, 4);
        Bench.make(x, Bench.TWICE, 7, 5);
        Checks.due("13: sum, all nothing", Bench.run(x, 2, 3, 3, 0, 0, 7), -11);
        Bench.run(x, 2, 0, 3, 0, 4, 7);
        Checks.due("13: sum, the last nothing", Bench.run(x, 2, 3, 3, 0, 0, 7), -11);
        Bench.run(x, 2, 0, 3, 1, 5, 7);
        comes(x, "sum", 2, 3, 3, 0, 19);
        Bench.run(x, 2, 0, 3, 1, 4, 7);
        comes(x, "sum of the same twice", 2, 3, 3, 0, 10);
        Bench.run(x, 0, 1, 4, 2, 0, 7);
        comes(x, "sum past the greatest", 2, 3, 3, 0, -2);
        Bench.run(x, 2, 0, 3, 0, 8, 7);
        Checks.due("13: sum, the first nothing", Bench.run(x, 2, 3, 3, 0, 0, 7), -11);
        Checks.due("13: sum of nothing", Bench.run(x, 2, 3, 8, 0, 0, 7), -11);
    }

    private static void firsts() {
        JavaBridge x = withInts(0, 1, 2);
        Bench.make(x, Bench.SHELF, 3, 3);
        Bench.make(x, Bench.CELL, 10, 4);
        Bench.make(x, Bench.TWICE, 5, 5);
        Bench.make(x, Bench.INTS, 2, 6);
        x.set(6, 0, 5);
        Bench.run(x, 2, 0, 3, 0, 4, 8);
        Bench.run(x, 2, 0, 3, 1, 5, 8);
        comes(x, "first by V, not by get()", 2, 4, 3, 6, 1);
        x.set(6, 0, 10);
        comes(x, "first behind which nothing is looked at", 2, 4, 3, 6, 0);
        x.set(6, 0, 7);
        Checks.due("13: a cell is nothing", Bench.run(x, 2, 4, 3, 6, 0, 7), -11);
        Bench.run(x, 2, 0, 3, 2, 4, 8);
        comes(x, "none", 2, 4, 3, 6, -1);
        x.set(6, 0, 10);
        comes(x, "the least of two", 2, 4, 3, 6, 0);
        Checks.due("13: no row", Bench.run(x, 2, 4, 3, 8, 0, 7), -11);
        Bench.make(x, Bench.SHELF, 0, 3);
        comes(x, "of an empty shelf", 2, 4, 3, 6, -1);
        Checks.due("13: no row for an empty shelf", Bench.run(x, 2, 4, 3, 8, 0, 7), -11);
        Bench.make(x, Bench.INTS, 0, 6);
        Checks.due("13: an empty row", Bench.run(x, 2, 4, 3, 6, 0, 7), -13);
        Bench.make(x, Bench.SHELF, 1, 3);
        Checks.due("13: an empty row, and a cell is nothing", Bench.run(x, 2, 4, 3, 6, 0, 7), -13);
    }

    private static void lengths() {
        JavaBridge x = new JavaBridge();
        int[] kinds = {4, 5, 6, 6, 7};
        for (int length : new int[] {MIN, -1, 0, 1, 15, 16, 17, MAX}) {
            int due = length > 16 ? 16 : length;
            for (int what = 2; what < 5; what++) {
                Checks.due("13: length " + length, Bench.make(x, what, length, 0), length < 0 ? -16 : kinds[what]);
                if (length >= 0 && what < 4) {
                    comes(x, "size", 2, 2, 0, 0, due);
                }
            }
            if (length >= 0) {
                Checks.due("13: behind the last", x.set(0, due, 1), -13);
                Checks.due("13: the last", x.set(0, due - 1, 1), due == 0 ? -13 : 1);
            }
        }
    }

    private static void made() {
        JavaBridge x = new JavaBridge();
        comes(x, "none so far", 3, 5, 0, 0, 0);
        for (int what = 0; what < 5; what++) {
            Bench.make(x, what, 1, 0);
            comes(x, "one more", 3, 5, 0, 0, what + 1);
        }
        for (int what = 2; what < 5; what++) {
            Bench.make(x, what, -1, 0);
            comes(x, "none where it threw", 3, 5, 0, 0, 5);
        }
        comes(new JavaBridge(), "each bridge has its own", 3, 5, 0, 0, 0);
    }

    private static void as() {
        JavaBridge x = withInts(1);
        for (int what = 0; what < 5; what++) {
            Bench.make(x, what, 2, 1);
            Checks.due("13: as", Bench.run(x, 3, 6, 0, 1, 0, 2), what == 1 ? 5 : -12);
        }
        Bench.make(x, Bench.TWICE, 2, 1);
        Bench.run(x, 3, 6, 0, 1, 0, 2);
        Checks.due("13: that", x.same(1, 2), 1);
        Checks.due("13: as, nothing", Bench.run(x, 3, 6, 0, 8, 0, 2), -11);
        x.declare(0, 3, 6, 8, 0, 5, 5);
        Checks.due("13: as, nothing may come", x.call(0, 0, 8, 0, 2), 0);
        Checks.due("13: nothing came", x.kind(2), 0);
        Checks.due("13: as, a number", x.call(0, 0, 0, 0, 2), -3);
        comes(x, "as makes none", 3, 5, 0, 0, 6);
    }

    private static void whatWasDoneStays() {
        JavaBridge x = withInts(4);
        x.declare(0, 3, 0, 1, 0, 5, 0);
        x.number(1, 2, 9);
        Checks.due("13: made, but no twice", x.call(0, 0, 0, 0, 1), -12);
        Checks.due("13: the place stays", x.value(1), 9);
        comes(x, "it was made", 3, 5, 0, 0, 1);
        Checks.due("13: a call", x.word(0, 4), 1);
        Checks.due("13: a throw", x.word(0, 5), 1);
    }
}
