/** Promises 1 to 8: a new object, and the calls on places. */
public final class PlacesTest {
    private static final long NOTHING = Long.MIN_VALUE;
    private static final int[] NO_PLACES = {-2, 10, 11, 77, Integer.MAX_VALUE, Integer.MIN_VALUE};

    public static void main(String[] args) {
        newObject();
        number();
        reals();
        move();
        kind();
        value();
        same();
        sameObjects();
        cell();
        set();
        Checks.finish("PlacesTest");
    }

    private static void newObject() {
        JavaBridge x = new JavaBridge();
        Checks.due("1: NOTHING", JavaBridge.NOTHING, NOTHING);
        for (int i = 0; i < 10; i++) {
            Checks.due("1: kind(" + i + ")", x.kind(i), 0);
            Checks.due("1: value(" + i + ")", x.value(i), NOTHING);
            Checks.due("1: word(" + i + ", 0)", x.word(i, 0), -1);
            Checks.due("1: call(" + i + ")", x.call(i, 0, 0, 0, 0), -1);
        }
        for (int c = 0; c < 4; c++) {
            Checks.due("1: started(" + c + ")", x.started(c), 0);
        }
        Checks.due("1: latest()", x.latest(), 0);
        Checks.due("1: share()", Checks.share(x), Checks.NO_SHARE);
        Checks.due("1: row of no words", x.row(0, 10, 0, 0, 0, 0), 0);
    }

    private static void number() {
        JavaBridge x = new JavaBridge();
        Checks.due("2: an int", x.number(0, 1, 5), 1);
        Checks.due("2: the least int", x.number(1, 1, Integer.MIN_VALUE), 1);
        Checks.due("2: the greatest int", x.number(2, 1, Integer.MAX_VALUE), 1);
        Checks.due("2: above an int", x.number(0, 1, 2147483648L), -2);
        Checks.due("2: below an int", x.number(0, 1, -2147483649L), -2);
        Checks.due("2: the refused one changes nothing", x.value(0), 5);
        Checks.due("2: a long", x.number(3, 2, Long.MAX_VALUE), 1);
        Checks.due("2: the long", x.value(3), Long.MAX_VALUE);
        Checks.due("2: its kind", x.kind(3), 2);
        Checks.due("2: a real", x.number(9, 3, -7), 1);
        Checks.due("2: its kind", x.kind(9), 3);
        for (int kind : new int[] {0, -1, 4, 5, 6, 7, 8, 9, Integer.MAX_VALUE, Integer.MIN_VALUE}) {
            Checks.due("2: of kind " + kind, x.number(0, kind, 1), -2);
        }
        for (int place : NO_PLACES) {
            Checks.due("2: place " + place, x.number(place, 1, 1), -1);
            Checks.due("2: place ahead of kind " + place, x.number(place, 0, 1), -1);
            Checks.due("2: place ahead of no int " + place, x.number(place, 1, 2147483648L), -1);
        }
        Checks.due("2: place -1", x.number(-1, 1, 1), -1);
        Checks.due("2: a thing gives way", Bench.make(x, Bench.CELL, 1, 0), 4);
        Checks.due("2: to a number", x.number(0, 1, 8), 1);
        Checks.due("2: kind", x.kind(0), 1);
        Checks.due("2: value", x.value(0), 8);
    }

    private static void reals() {
        JavaBridge x = new JavaBridge();
        checkReal(x, 0);
        checkReal(x, Long.MIN_VALUE);
        checkReal(x, Long.MAX_VALUE);
        checkReal(x, (1L << 53) + 1);
        checkReal(x, (1L << 53) + 3);
        checkReal(x, -(1L << 54) - 2);
        for (int i = 0; i < 63; i++) {
            JavaBridge y = new JavaBridge();
            checkReal(y, 1L << i);
            checkReal(y, (1L << i) - 1);
            checkReal(y, -(1L << i) - 1);
            checkReal(y, 0x5a5a5a5a5a5a5a5aL >> i);
            checkReal(y, -(0x7123456789abcdefL >> i));
        }
    }

    private static void checkReal(JavaBridge x, long v) {
        Checks.due("2: a real", x.number(4, 3, v), 1);
        Checks.due("5: bits of the real " + v, x.value(4), Double.doubleToLongBits((double) v));
    }

    private static void move() {
        JavaBridge x = new JavaBridge();
        x.number(0, 1, 3);
        x.number(1, 2, 4);
        x.number(2, 3, 5);
        Bench.make(x, Bench.TWICE, 6, 3);
        Checks.due("3: an int", x.move(5, 0), 1);
        Checks.due("3: the int", x.value(5), 3);
        Checks.due("3: its source stays", x.value(0), 3);
        Checks.due("3: a long", x.move(5, 1), 2);
        Checks.due("3: the long", x.value(5), 4);
        Checks.due("3: a real", x.move(5, 2), 3);
        Checks.due("3: the real", x.value(5), Double.doubleToLongBits(5.0));
        Checks.due("3: a thing", x.move(5, 3), 5);
        Checks.due("3: the very thing", x.same(5, 3), 1);
        Checks.due("3: onto itself", x.move(5, 5), 5);
        Checks.due("3: what holds nothing", x.move(5, 7), 0);
        Checks.due("3: nothing then", x.kind(5), 0);
        Checks.due("3: back", x.move(5, 3), 5);
        Checks.due("3: nothing", x.move(5, -1), 0);
        Checks.due("3: nothing there", x.kind(5), 0);
        Checks.due("3: nothing there either", x.same(5, 7), 1);
        for (int place : NO_PLACES) {
            Checks.due("3: to place " + place, x.move(place, 0), -1);
            Checks.due("3: from place " + place, x.move(0, place), -1);
        }
        Checks.due("3: to place -1", x.move(-1, 0), -1);
        Checks.due("3: nothing to no place", x.move(10, -1), -1);
        Checks.due("3: a refusal changes nothing", x.value(0), 3);
    }

    private static void kind() {
        JavaBridge x = new JavaBridge();
        int[] kinds = {4, 5, 6, 6, 7};
        for (int what = 0; what < kinds.length; what++) {
            Checks.due("4: made " + what, Bench.make(x, what, 2, what), kinds[what]);
        }
        for (int what = 0; what < kinds.length; what++) {
            Checks.due("4: kind(" + what + ")", x.kind(what), kinds[what]);
        }
        for (int place : NO_PLACES) {
            Checks.due("4: kind(" + place + ")", x.kind(place), -1);
        }
        Checks.due("4: kind(-1)", x.kind(-1), -1);
    }

    private static void value() {
        JavaBridge x = new JavaBridge();
        x.number(0, 1, -12);
        x.number(1, 2, Long.MIN_VALUE + 1);
        x.number(2, 3, -3);
        Checks.due("5: an int", x.value(0), -12);
        Checks.due("5: a long", x.value(1), Long.MIN_VALUE + 1);
        Checks.due("5: a real", x.value(2), Double.doubleToLongBits(-3.0));
        Checks.due("5: nothing", x.value(3), NOTHING);
        for (int what = 0; what < 5; what++) {
            Bench.make(x, what, 2, 4);
            Checks.due("5: a thing", x.value(4), NOTHING);
        }
        for (int place : NO_PLACES) {
            Checks.due("5: place " + place, x.value(place), NOTHING);
        }
        Checks.due("5: place -1", x.value(-1), NOTHING);
        Checks.due("5: nothing is thrown", x.latest(), 0);
    }

    private static void same() {
        JavaBridge x = new JavaBridge();
        Checks.due("6: both nothing", x.same(0, 1), 1);
        x.number(0, 1, 3);
        Checks.due("6: a number, nothing", x.same(0, 1), 0);
        Checks.due("6: itself", x.same(0, 0), 1);
        x.number(1, 1, 3);
        Checks.due("6: like ints", x.same(0, 1), 1);
        x.number(1, 1, 4);
        Checks.due("6: other ints", x.same(0, 1), 0);
        x.number(1, 2, 3);
        Checks.due("6: an int, a long", x.same(0, 1), 0);
        x.number(0, 2, 3);
        Checks.due("6: like longs", x.same(0, 1), 1);
        x.number(0, 3, 3);
        Checks.due("6: a real, a long", x.same(0, 1), 0);
        x.number(1, 3, 3);
        Checks.due("6: like reals", x.same(0, 1), 1);
        x.number(1, 3, -3);
        Checks.due("6: other reals", x.same(0, 1), 0);
        x.number(0, 3, (1L << 53) + 1);
        x.number(1, 3, 1L << 53);
        Checks.due("6: reals that became alike", x.same(0, 1), 1);
        x.number(0, 3, 0);
        x.number(1, 1, 0);
        Checks.due("6: zeros of two kinds", x.same(0, 1), 0);
        Checks.due("6: zero, nothing", x.same(1, 5), 0);
        x.number(1, 2, Double.doubleToLongBits(2.0));
        x.number(0, 3, 2);
        Checks.due("6: a long that is the bits of a real", x.same(0, 1), 0);
        for (int place : NO_PLACES) {
            Checks.due("6: one is no place", x.same(place, 0), -1);
            Checks.due("6: the other is no place", x.same(0, place), -1);
            Checks.due("6: both are no places", x.same(place, place), -1);
        }
        Checks.due("6: -1 is no place", x.same(0, -1), -1);
        Checks.due("6: -1 is no place", x.same(-1, 0), -1);
    }

    private static void sameObjects() {
        JavaBridge x = new JavaBridge();
        for (int what = 0; what < 5; what++) {
            Bench.make(x, what, 2, 0);
            Bench.make(x, what, 2, 1);
            Checks.due("6: two things made alike", x.same(0, 1), 0);
            x.move(2, 0);
            Checks.due("6: the very thing", x.same(0, 2), 1);
            Checks.due("6: a thing, nothing", x.same(0, 5), 0);
            Checks.due("6: nothing, a thing", x.same(5, 0), 0);
            Checks.due("6: a thing, a number", x.same(0, Bench.PLACE), 0);
        }
    }

    private static void cell() {
        JavaBridge x = new JavaBridge();
        Bench.make(x, Bench.INTS, 3, 0);
        Checks.due("7: at first", x.cell(0, 0), 0);
        x.set(0, 2, -5);
        Checks.due("7: cell 2", x.cell(0, 2), -5);
        Checks.due("7: no place", x.cell(10, 0), NOTHING);
        Checks.due("7: no place", x.cell(-1, 0), NOTHING);
        Checks.due("7: no place throws nothing", x.latest(), 0);
        Checks.due("7: below", x.cell(0, -1), NOTHING);
        Checks.due("7: below throws 3", x.latest(), 3);
        Checks.due("7: nothing", x.cell(5, 0), NOTHING);
        Checks.due("7: nothing throws 1", x.latest(), 1);
        Checks.due("7: above", x.cell(0, 3), NOTHING);
        Checks.due("7: above throws 3", x.latest(), 3);
        for (int what = 0; what < 4; what++) {
            Bench.make(x, what, 3, 1);
            x.cell(5, 0);
            Checks.due("7: no ints", x.cell(1, 0), NOTHING);
            Checks.due("7: no ints throws 2", x.latest(), 2);
        }
        for (int kind = 1; kind <= 3; kind++) {
            x.number(1, kind, 3);
            x.cell(5, 0);
            Checks.due("7: a number", x.cell(1, 0), NOTHING);
            Checks.due("7: a number throws 2", x.latest(), 2);
        }
        Checks.due("7: a cast comes ahead of an index", x.cell(1, 99), NOTHING);
        Checks.due("7: that is 2", x.latest(), 2);
        Checks.due("7: nothing comes ahead of an index", x.cell(5, 99), NOTHING);
        Checks.due("7: that is 1", x.latest(), 1);
        Checks.due("7: it is no throw of a word", Checks.share(x), Checks.NO_SHARE);
        Bench.make(x, Bench.INTS, 0, 2);
        Checks.due("7: of an empty row", x.cell(2, 0), NOTHING);
        Bench.make(x, Bench.INTS, 17, 2);
        Checks.due("7: cell 15 of the longest", x.cell(2, 15), 0);
        Checks.due("7: cell 16 of the longest", x.cell(2, 16), NOTHING);
        Checks.due("7: far off", x.cell(2, Integer.MAX_VALUE), NOTHING);
        Checks.due("7: far off", x.cell(2, Integer.MIN_VALUE), NOTHING);
    }

    private static void set() {
        JavaBridge x = new JavaBridge();
        Bench.make(x, Bench.INTS, 2, 0);
        x.move(1, 0);
        Checks.due("8: cell 0", x.set(0, 0, Integer.MIN_VALUE), 1);
        Checks.due("8: it is there", x.cell(0, 0), Integer.MIN_VALUE);
        Checks.due("8: the row is shared", x.cell(1, 0), Integer.MIN_VALUE);
        Checks.due("8: the next cell stays", x.cell(0, 1), 0);
        Checks.due("8: cell 1", x.set(1, 1, 9), 1);
        Checks.due("8: it is there", x.cell(0, 1), 9);
        Checks.due("8: nothing was thrown", x.latest(), 0);
        Checks.due("8: no place", x.set(10, 0, 1), -1);
        Checks.due("8: no place", x.set(-1, 0, 1), -1);
        Checks.due("8: no place throws nothing", x.latest(), 0);
        Checks.due("8: above", x.set(0, 2, 1), -13);
        Checks.due("8: latest", x.latest(), 3);
        Checks.due("8: nothing", x.set(5, 7, 1), -11);
        Checks.due("8: latest", x.latest(), 1);
        Checks.due("8: below", x.set(0, -1, 1), -13);
        Bench.make(x, Bench.SHELF, 2, 3);
        Checks.due("8: no ints", x.set(3, 7, 1), -12);
        Checks.due("8: latest", x.latest(), 2);
        Checks.due("8: a number", x.set(Bench.PLACE, 0, 1), -12);
        Checks.due("8: far off", x.set(0, Integer.MAX_VALUE, 1), -13);
        Checks.due("8: far off", x.set(0, Integer.MIN_VALUE, 1), -13);
        Checks.due("8: cell 0 stays", x.cell(0, 0), Integer.MIN_VALUE);
        Checks.due("8: it is no throw of a word", Checks.share(x), Checks.NO_SHARE);
    }
}
