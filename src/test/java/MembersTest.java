/**
 * 'Terms', each MEMBER of the host: the least and the greatest number, where it wraps around, the empty row or shelf
 * and the full one, just below a bound, at it, and just above; and each that it THROWS. A method's comment is the
 * document's sentence.
 */
public final class MembersTest {
    private static final int MIN = Integer.MIN_VALUE;
    private static final int MAX = Integer.MAX_VALUE;
    private static final int HALF = 1 << 30;
    private static final int FULL = 16;

    /** Places: what a member is called on, what goes in, what goes in second, what comes; and one that holds nothing. */
    private static final int ON = 0;
    private static final int IN = 1;
    private static final int SECOND = 2;
    private static final int CAME = 3;
    private static final int EMPTY = 4;

    /** What stands in the place for what comes, to be seen there where nothing goes into it. */
    private static final long BEFORE = 77;

    public static void main(String[] args) {
        get();
        set();
        add();
        divide();
        divideByNothing();
        wide();
        half();
        same();
        put();
        putOfTwices();
        putThrows();
        keepAndKept();
        self();
        shelfPutAndAt();
        shelfPutThrows();
        shelfOfTwices();
        size();
        sum();
        sumThrows();
        first();
        firstThrows();
        cellAndTwice();
        lengthsOfShelves();
        lengthsOfInts();
        made();
        as();
        onNothing();
        Checks.finish("MembersTest");
    }

    private static JavaBridge on(int what, int v) {
        JavaBridge x = new JavaBridge();
        Bench.make(x, what, v, ON);
        return x;
    }

    private static int run(JavaBridge x, int cls, int m) {
        x.number(CAME, 2, BEFORE);
        return Bench.run(x, cls, m, ON, IN, SECOND, CAME);
    }

    /** A member that comes back with a number. */
    private static void comes(String what, JavaBridge x, int cls, int m, long want) {
        Checks.due(what + " comes back", run(x, cls, m), x.member(cls, m, 2));
        Checks.due(what, x.value(CAME), want);
    }

    private static void comesOfInt(String what, JavaBridge x, int cls, int m, int in, long want) {
        x.number(IN, 1, in);
        comes(what + " " + in, x, cls, m, want);
    }

    /** A member that throws: nothing goes into the place. */
    private static void throwsKind(String what, JavaBridge x, int cls, int m, int thrown) {
        Checks.due(what + " throws", run(x, cls, m), -10 - thrown);
        Checks.due(what + ", latest()", x.latest(), thrown);
        Checks.due(what + ", the place's kind", x.kind(CAME), 2);
        Checks.due(what + ", the place's value", x.value(CAME), BEFORE);
    }

    private static void throwsOfInt(String what, JavaBridge x, int cls, int m, int in, int thrown) {
        x.number(IN, 1, in);
        throwsKind(what + " " + in, x, cls, m, thrown);
    }

    /** 0 get () INT: V; of a TWICE two times that. */
    private static void get() {
        int[] vs = {MIN, MIN + 1, -HALF - 1, -HALF, -HALF + 1, -1, 0, 1, HALF - 1, HALF, MAX - 1, MAX};
        int[] twice = {0, 2, MAX - 1, MIN, MIN + 2, -2, 0, 2, MAX - 1, MIN, -4, -2};
        for (int i = 0; i < vs.length; i++) {
            comes("0.0 get of " + vs[i], on(Bench.CELL, vs[i]), 0, 0, vs[i]);
            comes("0.0 get of a TWICE of " + vs[i], on(Bench.TWICE, vs[i]), 0, 0, twice[i]);
            comes("1.0 get of a TWICE of " + vs[i], on(Bench.TWICE, vs[i]), 1, 0, twice[i]);
        }
    }

    /** 1 set (INT) UNIT: V. */
    private static void set() {
        for (int v : new int[] {MIN, -1, 0, 1, MAX}) {
            for (int cls = 0; cls < 2; cls++) {
                JavaBridge x = on(Bench.TWICE, 5);
                x.number(IN, 1, v);
                Checks.due("1 set " + v, run(x, cls, 1), 0);
                Checks.due("1 set: UNIT, the place stays", x.value(CAME), BEFORE);
                comes("1 set of a TWICE, get", x, cls, 0, 2 * v);
                Bench.make(x, Bench.CELL, 5, ON);
                x.number(IN, 1, v);
                run(x, 0, 1);
                comes("1 set, get", x, 0, 0, v);
            }
        }
    }

    /** 2 add (INT) INT: V becomes V and that: what get() is then. */
    private static void add() {
        int[][] sums = {{MAX, 0, MAX}, {MAX, 1, MIN}, {MAX, MAX, -2}, {MIN, 0, MIN}, {MIN, -1, MAX}, {MIN, MIN, 0}, {MAX, MIN, -1}, {-1, 1, 0}};
        for (int[] sum : sums) {
            JavaBridge x = on(Bench.CELL, sum[0]);
            comesOfInt("2 add to " + sum[0], x, 0, 2, sum[1], sum[2]);
            comes("2 add: V became that", x, 0, 0, sum[2]);
            JavaBridge y = on(Bench.TWICE, sum[0]);
            comesOfInt("2 add to a TWICE of " + sum[0], y, 1, 2, sum[1], 2 * sum[2]);
            comes("2 add: V of a TWICE became that, not two times", y, 1, 0, 2 * sum[2]);
        }
        JavaBridge x = on(Bench.TWICE, HALF - 1);
        comesOfInt("2 add, just below where get() wraps", x, 0, 2, 0, MAX - 1);
        comesOfInt("2 add, where get() wraps", x, 0, 2, 1, MIN);
    }

    /** 3 divide (INT) INT: get() by that, cut. */
    private static void divide() {
        int[][] cuts = {
            {7, 2, 3}, {-7, 2, -3}, {7, -2, -3}, {-7, -2, 3}, {1, 2, 0}, {-1, 2, 0}, {0, 5, 0}, {7, 7, 1}, {7, 8, 0},
            {MIN, -1, MIN}, {MIN, 1, MIN}, {MIN, MIN, 1}, {MIN, MAX, -1}, {MAX, MIN, 0}, {MAX, -1, -MAX}, {MIN + 1, -1, MAX},
        };
        for (int[] cut : cuts) {
            JavaBridge x = on(Bench.CELL, cut[0]);
            comesOfInt("3 divide " + cut[0] + " by", x, 0, 3, cut[1], cut[2]);
            comes("3 divide: V stays", x, 0, 0, cut[0]);
        }
        comesOfInt("3 divide get() of a TWICE, not V", on(Bench.TWICE, 7), 0, 3, 4, 3);
        comesOfInt("3 divide get() of a TWICE that wraps", on(Bench.TWICE, HALF), 1, 3, -1, MIN);
        comesOfInt("3 divide get() of a TWICE that is 0 by wrapping", on(Bench.TWICE, MIN), 1, 3, 3, 0);
    }

    /** by 0 THROWS 4. */
    private static void divideByNothing() {
        for (int v : new int[] {MIN, -1, 0, 1, MAX}) {
            JavaBridge x = on(Bench.CELL, v);
            throwsOfInt("3 divide " + v + " by", x, 0, 3, 0, 4);
            comes("3 divide by 0: V stays", x, 0, 0, v);
            throwsOfInt("3 divide a TWICE by", on(Bench.TWICE, v), 1, 3, 0, 4);
        }
        comesOfInt("3 divide by just below 0", on(Bench.CELL, 6), 0, 3, -1, -6);
        comesOfInt("3 divide by just above 0", on(Bench.CELL, 6), 0, 3, 1, 6);
    }

    /** 4 wide () LONG: get() 1000000007 times. */
    private static void wide() {
        comes("4 wide of 0", on(Bench.CELL, 0), 0, 4, 0);
        comes("4 wide of 1", on(Bench.CELL, 1), 0, 4, 1000000007L);
        comes("4 wide of -1", on(Bench.CELL, -1), 0, 4, -1000000007L);
        comes("4 wide, no INT any more", on(Bench.CELL, 3), 0, 4, 3000000021L);
        comes("4 wide of the greatest", on(Bench.CELL, MAX), 0, 4, 2147483662032385529L);
        comes("4 wide of the least", on(Bench.CELL, MIN), 0, 4, -2147483663032385536L);
        comes("4 wide of a TWICE", on(Bench.TWICE, 3), 1, 4, 6000000042L);
        comes("4 wide of a TWICE whose get() wraps", on(Bench.TWICE, HALF), 1, 4, -2147483663032385536L);
        comes("4 wide of a TWICE of the greatest", on(Bench.TWICE, MAX), 0, 4, -2000000014L);
    }

    /** 5 half () REAL: get() by 2.0. */
    private static void half() {
        comes("5 half of 0", on(Bench.CELL, 0), 0, 5, 0L);
        comes("5 half of 1", on(Bench.CELL, 1), 0, 5, 0x3fe0000000000000L);
        comes("5 half of -1", on(Bench.CELL, -1), 0, 5, 0xbfe0000000000000L);
        comes("5 half of 2", on(Bench.CELL, 2), 0, 5, 0x3ff0000000000000L);
        comes("5 half of 3", on(Bench.CELL, 3), 0, 5, 0x3ff8000000000000L);
        comes("5 half of the greatest", on(Bench.CELL, MAX), 0, 5, 0x41cfffffffc00000L);
        comes("5 half of the least", on(Bench.CELL, MIN), 0, 5, 0xc1d0000000000000L);
        comes("5 half of a TWICE", on(Bench.TWICE, 3), 1, 5, 0x4008000000000000L);
        comes("5 half of a TWICE whose get() wraps", on(Bench.TWICE, HALF), 0, 5, 0xc1d0000000000000L);
        comes("5 half of a TWICE whose get() is 0 by wrapping", on(Bench.TWICE, MIN), 0, 5, 0L);
    }

    /** 6 same (ANY) INT: whether it is that OBJECT (1, 0). */
    private static void same() {
        for (int what = Bench.CELL; what <= Bench.TWICE; what++) {
            JavaBridge x = on(what, 2);
            x.move(IN, ON);
            comes("6 same, itself", x, 0, 6, 1);
            for (int other = 0; other < 5; other++) {
                Bench.make(x, other, 2, IN);
                comes("6 same, another made alike", x, 0, 6, 0);
            }
            x.move(IN, -1);
            comes("6 same, nothing", x, 0, 6, 0);
        }
    }

    /** 7 put (INTS) INT: cell V of that row becomes get() .. V. */
    private static void put() {
        for (int length : new int[] {1, 2, FULL}) {
            for (int v : new int[] {0, length - 1}) {
                JavaBridge x = on(Bench.CELL, v);
                Bench.make(x, Bench.INTS, length, IN);
                x.set(IN, v, -5);
                comes("7 put into cell " + v + " of " + length, x, 0, 7, v);
                for (int i = 0; i < length; i++) {
                    Checks.due("7 put, cell " + i, x.cell(IN, i), i == v ? v : 0);
                }
            }
        }
    }

    private static void putOfTwices() {
        for (int cls = 0; cls < 2; cls++) {
            JavaBridge x = on(Bench.TWICE, FULL - 1);
            Bench.make(x, Bench.INTS, FULL, IN);
            comes("7 put of a TWICE: V comes", x, cls, 7, FULL - 1);
            Checks.due("7 put of a TWICE: the cell is get()", x.cell(IN, FULL - 1), 2 * (FULL - 1));
            Checks.due("7 put of a TWICE: the cell ahead stays", x.cell(IN, FULL - 2), 0);
        }
    }

    /** THROWS 1, 3. */
    private static void putThrows() {
        for (int length : new int[] {0, 1, FULL}) {
            for (int v : new int[] {MIN, -1, length, length + 1, MAX}) {
                JavaBridge x = on(Bench.CELL, v);
                Bench.make(x, Bench.INTS, length, IN);
                throwsKind("7 put into cell " + v + " of " + length, x, 0, 7, 3);
                for (int i = 0; i < length; i++) {
                    Checks.due("7 put that throws, cell " + i, x.cell(IN, i), 0);
                }
                x.move(IN, -1);
                throwsKind("7 put, no row, ahead of an index", x, 0, 7, 1);
            }
        }
        throwsKind("7 put, no row", on(Bench.CELL, 0), 0, 7, 1);
        JavaBridge x = on(Bench.TWICE, 8);
        Bench.make(x, Bench.INTS, FULL, IN);
        comes("7 put of a TWICE: V is the index, though get() is none", x, 1, 7, 8);
        JavaBridge y = on(Bench.TWICE, MIN);
        Bench.make(y, Bench.INTS, FULL, IN);
        throwsKind("7 put of a TWICE: V is no index, though get() is one", y, 1, 7, 3);
    }

    /** 8 keep (ANY) UNIT. 9 kept () ANY: a KEPT (an OBJECT or nothing). */
    private static void keepAndKept() {
        for (int what = Bench.CELL; what <= Bench.TWICE; what++) {
            JavaBridge x = on(what, 2);
            throwsKind("9 kept, at first nothing", x, 0, 9, 1);
            for (int other = 0; other < 5; other++) {
                int kind = Bench.make(x, other, 2, IN);
                Checks.due("8 keep", run(x, 0, 8), 0);
                Checks.due("8 keep: UNIT, the place stays", x.value(CAME), BEFORE);
                Checks.due("9 kept", run(x, 0, 9), kind);
                Checks.due("9 kept is that", x.same(CAME, IN), 1);
            }
            x.move(IN, ON);
            run(x, 0, 8);
            Checks.due("9 kept is itself", run(x, 0, 9), 4 + what);
            Checks.due("9 kept is itself", x.same(CAME, ON), 1);
            x.move(IN, -1);
            Checks.due("8 keep nothing", run(x, 0, 8), 0);
            throwsKind("9 kept, nothing again", x, 0, 9, 1);
        }
    }

    /** 10 self () TWICE: it. */
    private static void self() {
        JavaBridge x = on(Bench.TWICE, 2);
        Checks.due("10 self", run(x, 1, 10), 5);
        Checks.due("10 self is it", x.same(CAME, ON), 1);
        Checks.due("10 is of 1 alone", x.declare(0, 0, 10, 0, 0, 5, 0), -1);
    }

    private static JavaBridge shelfOf(int what, int length, int... vs) {
        JavaBridge x = on(what, length);
        for (int i = 0; i < vs.length; i++) {
            Bench.make(x, Bench.CELL, vs[i], SECOND);
            x.number(IN, 1, i);
            run(x, 2, 0);
        }
        return x;
    }

    /** of 2: 0 put (INT, CELL) UNIT: cell INT becomes that. 1 at (INT) CELL. */
    private static void shelfPutAndAt() {
        for (int length : new int[] {1, 2, FULL}) {
            JavaBridge x = on(Bench.SHELF, length);
            for (int i = 0; i < length; i++) {
                throwsOfInt("2.1 at, nothing at first, cell", x, 2, 1, i, 1);
            }
            for (int i : new int[] {0, length - 1}) {
                for (int what = Bench.CELL; what <= Bench.TWICE; what++) {
                    Bench.make(x, what, 5, SECOND);
                    x.number(IN, 1, i);
                    Checks.due("2.0 put, cell " + i, run(x, 2, 0), 0);
                    Checks.due("2.0 put: UNIT, the place stays", x.value(CAME), BEFORE);
                    Checks.due("2.1 at, cell " + i, run(x, 2, 1), 4 + what);
                    Checks.due("2.1 at is that", x.same(CAME, SECOND), 1);
                }
            }
            x.move(SECOND, -1);
            x.number(IN, 1, length - 1);
            Checks.due("2.0 put nothing", run(x, 2, 0), 0);
            throwsOfInt("2.1 at, nothing again, cell", x, 2, 1, length - 1, 1);
        }
    }

    /** THROWS 3. */
    private static void shelfPutThrows() {
        for (int what = Bench.SHELF; what <= Bench.TWICE_SHELF; what++) {
            for (int length : new int[] {0, 1, FULL}) {
                JavaBridge x = on(what, length);
                for (int i : new int[] {MIN, -1, length, length + 1, MAX}) {
                    Bench.make(x, Bench.TWICE, 5, SECOND);
                    throwsOfInt("2.0 put of " + length + ", cell", x, 2, 0, i, 3);
                    throwsOfInt("2.1 at of " + length + ", cell", x, 2, 1, i, 3);
                    x.move(SECOND, -1);
                    throwsOfInt("2.0 put nothing of " + length + ", cell", x, 2, 0, i, 3);
                }
            }
        }
    }

    /** 5 (no TWICE, where only such go). */
    private static void shelfOfTwices() {
        JavaBridge x = on(Bench.TWICE_SHELF, FULL);
        for (int i : new int[] {0, FULL - 1}) {
            Bench.make(x, Bench.TWICE, 5, SECOND);
            x.number(IN, 1, i);
            Checks.due("2.0 put a TWICE", run(x, 2, 0), 0);
            x.move(EMPTY, SECOND);
            Bench.make(x, Bench.CELL, 5, SECOND);
            throwsOfInt("2.0 put no TWICE, cell", x, 2, 0, i, 5);
            Checks.due("2.1 at, the TWICE stays", run(x, 2, 1), 5);
            Checks.due("2.1 at is that", x.same(CAME, EMPTY), 1);
        }
        for (int i : new int[] {-1, FULL}) {
            throwsOfInt("2.0 put no TWICE, an index ahead of it, cell", x, 2, 0, i, 3);
        }
        x.move(SECOND, -1);
        x.number(IN, 1, 0);
        Checks.due("2.0 put nothing", run(x, 2, 0), 0);
        throwsOfInt("2.1 at, nothing", x, 2, 1, 0, 1);
    }

    /** 2 size () INT. */
    private static void size() {
        for (int length : new int[] {0, 1, FULL - 1, FULL}) {
            comes("2.2 size", on(Bench.SHELF, length), 2, 2, length);
            comes("2.2 size of TWICES", on(Bench.TWICE_SHELF, length), 2, 2, length);
        }
    }

    /** 3 sum () INT: get() of all cells, from the first on. */
    private static void sum() {
        comes("2.3 sum of the empty one", on(Bench.SHELF, 0), 2, 3, 0);
        comes("2.3 sum of the empty one of TWICES", on(Bench.TWICE_SHELF, 0), 2, 3, 0);
        comes("2.3 sum of one", shelfOf(Bench.SHELF, 1, 5), 2, 3, 5);
        comes("2.3 sum up to the greatest", shelfOf(Bench.SHELF, 2, MAX - 1, 1), 2, 3, MAX);
        comes("2.3 sum past the greatest", shelfOf(Bench.SHELF, 2, MAX, 1), 2, 3, MIN);
        comes("2.3 sum past the least", shelfOf(Bench.SHELF, 2, MIN, -1), 2, 3, MAX);
        JavaBridge x = shelfOf(Bench.SHELF, FULL, 1, 2, 3, 4, 5, 6, 7, 8, 9, 10, 11, 12, 13, 14, 15, 16);
        comes("2.3 sum of the full one", x, 2, 3, 136);
        Bench.make(x, Bench.TWICE, 16, SECOND);
        x.number(IN, 1, FULL - 1);
        run(x, 2, 0);
        comes("2.3 sum by get() of a TWICE", x, 2, 3, 152);
    }

    /** THROWS 1 (a cell is nothing). */
    private static void sumThrows() {
        throwsKind("2.3 sum, one cell of nothing", on(Bench.SHELF, 1), 2, 3, 1);
        throwsKind("2.3 sum, all are nothing", on(Bench.TWICE_SHELF, FULL), 2, 3, 1);
        for (int gap : new int[] {0, 1, 2}) {
            JavaBridge x = shelfOf(Bench.SHELF, 3, 4, 5, 6);
            comes("2.3 sum of 3", x, 2, 3, 15);
            x.move(SECOND, -1);
            x.number(IN, 1, gap);
            run(x, 2, 0);
            throwsKind("2.3 sum, nothing in cell " + gap, x, 2, 3, 1);
        }
    }

    private static void firstComes(String what, JavaBridge x, int wanted, long want) {
        x.set(IN, 0, wanted);
        comes("2.4 first, " + what, x, 2, 4, want);
    }

    /** 4 first (INTS) INT: the least number of its cells of which V is that of the row's cell 0 .. -1 none. */
    private static void first() {
        JavaBridge x = shelfOf(Bench.SHELF, FULL, 1, 2, 3, 4, MIN, 6, 7, 8, 9, 10, 11, 12, 3, MAX, 15, 16);
        Bench.make(x, Bench.INTS, 1, IN);
        firstComes("in the first cell", x, 1, 0);
        firstComes("in the last cell", x, 16, FULL - 1);
        firstComes("the least of two", x, 3, 2);
        firstComes("the least INT", x, MIN, 4);
        firstComes("the greatest INT", x, MAX, 13);
        firstComes("none", x, 0, -1);
        firstComes("none, below", x, -1, -1);
        Bench.make(x, Bench.INTS, FULL, IN);
        x.set(IN, 1, 1);
        firstComes("by the row's cell 0 alone", x, 2, 1);
        Checks.due("2.4 first: the row stays", x.cell(IN, 0), 2);
        JavaBridge y = on(Bench.TWICE_SHELF, 1);
        Bench.make(y, Bench.TWICE, 3, SECOND);
        y.number(IN, 1, 0);
        run(y, 2, 0);
        Bench.make(y, Bench.INTS, 1, IN);
        firstComes("V of a TWICE", y, 3, 0);
        firstComes("not get() of a TWICE", y, 6, -1);
        JavaBridge z = on(Bench.SHELF, 0);
        Bench.make(z, Bench.INTS, 1, IN);
        firstComes("of the empty shelf", z, 0, -1);
    }

    /** THROWS 1 (no row; a cell of the SHELF is nothing that is looked at), 3. */
    private static void firstThrows() {
        for (int length : new int[] {0, 1, FULL}) {
            JavaBridge x = on(Bench.SHELF, length);
            throwsKind("2.4 first, no row, a shelf of " + length, x, 2, 4, 1);
            Bench.make(x, Bench.INTS, 0, IN);
            throwsKind("2.4 first, an empty row, a shelf of " + length, x, 2, 4, 3);
        }
        JavaBridge x = shelfOf(Bench.SHELF, 4, 5, 6);
        Bench.make(x, Bench.INTS, 1, IN);
        firstComes("found ahead of a cell that is nothing", x, 6, 1);
        x.set(IN, 0, 7);
        throwsKind("2.4 first, a cell that is nothing is looked at", x, 2, 4, 1);
        JavaBridge y = on(Bench.SHELF, 1);
        Bench.make(y, Bench.INTS, 1, IN);
        throwsKind("2.4 first, the first cell is nothing, 0 is looked for", y, 2, 4, 1);
    }

    /** of 3: 0 cell (INT) CELL: a new one with this V. 1 twice (INT) TWICE. */
    private static void cellAndTwice() {
        for (int v : new int[] {MIN, -1, 0, 1, MAX}) {
            JavaBridge x = new JavaBridge();
            x.number(IN, 1, v);
            Checks.due("3.0 cell of " + v, Bench.run(x, 3, 0, ON, IN, SECOND, ON), 4);
            comes("3.0 cell, get", x, 0, 0, v);
            Checks.due("3.1 twice of " + v, Bench.run(x, 3, 1, ON, IN, SECOND, SECOND), 5);
            Checks.due("3.1 a new one", x.same(ON, SECOND), 0);
            x.move(ON, SECOND);
            comes("3.1 twice, get", x, 0, 0, 2 * v);
        }
    }

    private static void sizeIs(String what, JavaBridge x, int want) {
        x.move(ON, CAME);
        comes(what, x, 2, 2, want);
        throwsOfInt(what + ", behind the last, cell", x, 2, 1, want, 3);
        if (want > 0) {
            throwsOfInt(what + ", the last, nothing, cell", x, 2, 1, want - 1, 1);
        }
    }

    /** 2 shelf (INT) SHELF: THROWS 6. 3 shelf of TWICES (INT) SHELF: likewise. (16 cells at most: above as one of 16.) */
    private static void lengthsOfShelves() {
        int[] lengths = {0, 1, 2, 15, 16, 17, 32, MAX};
        for (int m = 2; m <= 3; m++) {
            JavaBridge x = new JavaBridge();
            for (int length : lengths) {
                x.number(IN, 1, length);
                Checks.due("3." + m + " shelf of " + length, run(x, 3, m), 6);
                sizeIs("3." + m + " size of a shelf of " + length, x, length > 16 ? 16 : length);
            }
            for (int length : new int[] {-1, -16, -17, MIN}) {
                throwsOfInt("3." + m + " shelf of", x, 3, m, length, 6);
            }
        }
    }

    /** 4 ints (INT) INTS: THROWS 6. (16 cells at most: above that a length is as one of 16.) */
    private static void lengthsOfInts() {
        for (int length : new int[] {0, 1, 2, 15, 16, 17, 32, MAX}) {
            JavaBridge x = new JavaBridge();
            int size = length > 16 ? 16 : length;
            x.number(IN, 1, length);
            Checks.due("3.4 ints of " + length, run(x, 3, 4), 7);
            for (int i = 0; i < size; i++) {
                Checks.due("3.4 ints of " + length + ", cell " + i, x.cell(CAME, i), 0);
            }
            Checks.due("3.4 ints of " + length + ", below the first", x.set(CAME, -1, 1), -13);
            Checks.due("3.4 ints of " + length + ", behind the last", x.set(CAME, size, 1), -13);
            if (size > 0) {
                Checks.due("3.4 ints of " + length + ", the last", x.set(CAME, size - 1, 1), 1);
            }
        }
        for (int length : new int[] {-1, -16, -17, MIN}) {
            throwsOfInt("3.4 ints of", new JavaBridge(), 3, 4, length, 6);
        }
    }

    /** 5 made () INT: how many OBJECTS it made. */
    private static void made() {
        JavaBridge x = new JavaBridge();
        comes("3.5 made, none", x, 3, 5, 0);
        x.number(IN, 1, 0);
        for (int m = 0; m < 5; m++) {
            run(x, 3, m);
            comes("3.5 made, one more by " + m, x, 3, 5, m + 1);
        }
        for (int m = 2; m < 5; m++) {
            throwsOfInt("3." + m + " of", x, 3, m, -1, 6);
            comes("3.5 made, none by one that threw", x, 3, 5, 5);
        }
        Bench.make(x, Bench.TWICE, 1, IN);
        run(x, 3, 6);
        comes("3.5 made, none by as", x, 3, 5, 6);
        x.move(IN, -1);
        Checks.due("3.0 refused", run(x, 3, 0), -3);
        comes("3.5 made, none by one that was refused", x, 3, 5, 6);
    }

    /** 6 as (ANY) TWICE: that, cast: THROWS 2. */
    private static void as() {
        JavaBridge x = new JavaBridge();
        for (int what = 0; what < 5; what++) {
            Bench.make(x, what, 2, IN);
            if (what == Bench.TWICE) {
                Checks.due("3.6 as, a TWICE", run(x, 3, 6), 5);
                Checks.due("3.6 as is that", x.same(CAME, IN), 1);
            } else {
                throwsKind("3.6 as, made by " + what, x, 3, 6, 2);
            }
        }
        x.move(IN, -1);
        throwsKind("3.6 as, nothing, and no MAY", x, 3, 6, 1);
    }

    /** the OBJECT it is called on .. or NOTHING: THROWS 1: every member, whatever else it would throw. */
    private static void onNothing() {
        int[] counts = {10, 11, 5};
        for (int cls = 0; cls < 3; cls++) {
            for (int m = 0; m < counts[cls]; m++) {
                JavaBridge x = new JavaBridge();
                if (x.member(cls, m, 0) == 1) {
                    x.number(IN, 1, 0);
                }
                throwsKind("member " + m + " of " + cls + " on NOTHING", x, cls, m, 1);
            }
        }
    }
}
