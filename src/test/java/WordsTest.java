/** Promises 9 to 12 and 14 to 17: members, declarations, rows of words, and what is told of them. */
public final class WordsTest {
    /** The document's members, each: the two kinds that go in, the kind that comes. */
    private static final int[][] CELL_MEMBERS = {
        {0, 0, 1}, {1, 0, 0}, {1, 0, 1}, {1, 0, 1}, {0, 0, 2}, {0, 0, 3}, {8, 0, 1}, {7, 0, 1}, {8, 0, 0}, {0, 0, 8},
    };
    private static final int[][] TWICE_MEMBERS = {
        {0, 0, 1}, {1, 0, 0}, {1, 0, 1}, {1, 0, 1}, {0, 0, 2}, {0, 0, 3}, {8, 0, 1}, {7, 0, 1}, {8, 0, 0}, {0, 0, 8},
        {0, 0, 5},
    };
    private static final int[][] SHELF_MEMBERS = {{1, 4, 0}, {1, 0, 4}, {0, 0, 1}, {0, 0, 1}, {7, 0, 1}};
    private static final int[][] MAKER_MEMBERS = {
        {1, 0, 4}, {1, 0, 5}, {1, 0, 6}, {1, 0, 6}, {1, 0, 7}, {0, 0, 1}, {8, 0, 5},
    };
    private static final int[][][] MEMBERS = {CELL_MEMBERS, TWICE_MEMBERS, SHELF_MEMBERS, MAKER_MEMBERS};
    private static final String[] CHANGERS = {"1278", "1278", "0", "01234"};

    public static void main(String[] args) {
        members();
        member();
        declareEverything();
        declareRefusals();
        declareAnew();
        word();
        row();
        rowLooksAnew();
        rowLimits();
        rowThrows();
        latest();
        started();
        startedBehindRefusals();
        share();
        Checks.finish("WordsTest");
    }

    private static void members() {
        JavaBridge x = new JavaBridge();
        for (int cls = 0; cls < 4; cls++) {
            Checks.due("9: members(" + cls + ")", x.members(cls), MEMBERS[cls].length);
        }
        for (int cls : new int[] {-1, 4, 5, Integer.MAX_VALUE, Integer.MIN_VALUE}) {
            Checks.due("9: members(" + cls + ")", x.members(cls), -1);
        }
    }

    private static void member() {
        JavaBridge x = new JavaBridge();
        for (int cls = 0; cls < 4; cls++) {
            for (int m = 0; m < MEMBERS[cls].length; m++) {
                for (int what = 0; what < 3; what++) {
                    Checks.due("10: member(" + cls + ", " + m + ", " + what + ")", x.member(cls, m, what), MEMBERS[cls][m][what]);
                }
                Checks.due("10: what -1", x.member(cls, m, -1), -2);
                Checks.due("10: what 3", x.member(cls, m, 3), -2);
                Checks.due("10: what far off", x.member(cls, m, Integer.MAX_VALUE), -2);
            }
            Checks.due("10: one too far", x.member(cls, MEMBERS[cls].length, 0), -1);
            Checks.due("10: one too far ahead of what", x.member(cls, MEMBERS[cls].length, 3), -1);
            Checks.due("10: below", x.member(cls, -1, 0), -1);
            Checks.due("10: far off", x.member(cls, Integer.MAX_VALUE, 0), -1);
        }
        Checks.due("10: no class", x.member(4, 0, 0), -1);
        Checks.due("10: no class", x.member(-1, 0, 9), -1);
    }

    /** Every member with every telling of kinds and marks within bounds, against the document's own rule. */
    private static void declareEverything() {
        JavaBridge x = new JavaBridge();
        for (int cls = 0; cls < 4; cls++) {
            for (int m = 0; m < MEMBERS[cls].length; m++) {
                for (int told = 0; told < 9 * 9 * 9 * 8; told++) {
                    x = told % 512 == 0 ? new JavaBridge() : x;
                    int a = told % 9;
                    int b = told / 9 % 9;
                    int out = told / 81 % 9;
                    int marks = told / 729;
                    String call = "11: declare(0, " + cls + ", " + m + ", " + a + ", " + b + ", " + out + ", " + marks + ")";
                    Checks.due(call, x.declare(0, cls, m, a, b, out, marks), dueOf(cls, m, a, b, out, marks));
                }
            }
        }
    }

    private static int dueOf(int cls, int m, int a, int b, int out, int marks) {
        if (a == 0 && b != 0) {
            return -2;
        }
        int[] kinds = MEMBERS[cls][m];
        boolean comes = out == kinds[2] || kinds[2] == 8 && out >= 4 && out <= 7 || kinds[2] == 4 && out == 5;
        boolean may = marks % 2 == 0 || out >= 4;
        boolean copy = marks / 2 % 2 == 0 || a == 7 || b == 7;
        boolean pure = marks < 4 || CHANGERS[cls].indexOf((char) ('0' + m)) < 0;
        return a == kinds[0] && b == kinds[1] && comes && may && copy && pure ? 1 : -3;
    }

    private static void declareRefusals() {
        JavaBridge x = new JavaBridge();
        int[] wild = {-1, Integer.MIN_VALUE, Integer.MAX_VALUE};
        for (int n : wild) {
            Checks.due("11: word " + n, x.declare(n, 0, 0, 0, 0, 1, 0), -1);
            Checks.due("11: class " + n, x.declare(0, n, 0, 0, 0, 1, 0), -1);
            Checks.due("11: member " + n, x.declare(0, 0, n, 0, 0, 1, 0), -1);
            Checks.due("11: a " + n, x.declare(0, 0, 0, n, 0, 1, 0), -2);
            Checks.due("11: b " + n, x.declare(0, 0, 0, 0, n, 1, 0), -2);
            Checks.due("11: out " + n, x.declare(0, 0, 0, 0, 0, n, 0), -2);
            Checks.due("11: marks " + n, x.declare(0, 0, 0, 0, 0, 1, n), -2);
        }
        Checks.due("11: word 10", x.declare(10, 0, 0, 0, 0, 1, 0), -1);
        Checks.due("11: class 4", x.declare(0, 4, 0, 0, 0, 1, 0), -1);
        Checks.due("11: self of a cell", x.declare(0, 0, 10, 0, 0, 5, 0), -1);
        Checks.due("11: a 9", x.declare(0, 3, 6, 9, 0, 5, 0), -2);
        Checks.due("11: b 9", x.declare(0, 2, 0, 1, 9, 0, 0), -2);
        Checks.due("11: out 9", x.declare(0, 0, 9, 0, 0, 9, 0), -2);
        Checks.due("11: marks 8", x.declare(0, 0, 0, 0, 0, 1, 8), -2);
        Checks.due("11: -1 ahead of -2", x.declare(10, 0, 0, 9, 9, 9, 9), -1);
        Checks.due("11: -1 ahead of -3", x.declare(0, 0, 10, 1, 1, 1, 0), -1);
        Checks.due("11: -2 ahead of -3", x.declare(0, 0, 0, 1, 0, 1, 8), -2);
        Checks.due("11: a refusal declares nothing", x.word(0, 0), -1);
    }

    private static void declareAnew() {
        JavaBridge x = new JavaBridge();
        Checks.due("11: declared", x.declare(0, 3, 5, 0, 0, 1, 0), 1);
        x.call(0, 0, 0, 0, 0);
        Checks.due("11: refused anew", x.declare(0, 3, 5, 0, 0, 2, 0), -3);
        Checks.due("11: what it was stays", x.word(0, 1), 5);
        Checks.due("11: how often stays", x.word(0, 4), 1);
        Checks.due("11: declared anew", x.declare(0, 0, 0, 0, 0, 1, 4), 1);
        Checks.due("11: class anew", x.word(0, 0), 0);
        Checks.due("11: member anew", x.word(0, 1), 0);
        Checks.due("11: marks anew", x.word(0, 3), 4);
        Checks.due("11: calls anew", x.word(0, 4), 0);
        x.call(0, 5, 0, 0, 0);
        Checks.due("11: threw", x.word(0, 5), 1);
        Checks.due("11: declared as it was", x.declare(0, 0, 0, 0, 0, 1, 4), 1);
        Checks.due("11: threw anew", x.word(0, 5), 0);
        Checks.due("11: no class starts", x.started(1), 0);
    }

    private static void word() {
        JavaBridge x = new JavaBridge();
        x.declare(0, 0, 9, 0, 0, 6, 5);
        x.declare(9, 2, 4, 7, 0, 1, 6);
        int[] first = {0, 9, 6, 5, 0, 0};
        int[] last = {2, 4, 1, 6, 0, 0};
        for (int what = 0; what < 6; what++) {
            Checks.due("12: word(0, " + what + ")", x.word(0, what), first[what]);
            Checks.due("12: word(9, " + what + ")", x.word(9, what), last[what]);
            Checks.due("12: not declared", x.word(5, what), -1);
        }
        Checks.due("12: what -1", x.word(0, -1), -2);
        Checks.due("12: what 6", x.word(0, 6), -2);
        Checks.due("12: -1 ahead of -2", x.word(1, 6), -1);
        Checks.due("12: word 10", x.word(10, 0), -1);
        Checks.due("12: word -1", x.word(-1, 7), -1);
        Checks.due("12: called on nothing", x.call(0, 5, 0, 0, 0), -11);
        Checks.due("12: called", x.word(0, 4), 1);
        Checks.due("12: threw", x.word(0, 5), 1);
        x.number(5, 1, 1);
        Checks.due("12: refused", x.call(0, 5, 0, 0, 0), -3);
        Checks.due("12: refused", x.call(0, 10, 0, 0, 0), -1);
        Checks.due("12: a refusal is no call", x.word(0, 4), 1);
        Checks.due("12: a refusal is no throw", x.word(0, 5), 1);
        Bench.make(x, Bench.CELL, 1, 1);
        x.declare(0, 0, 9, 0, 0, 6, 5);
        Checks.due("12: nothing comes where it may", x.call(0, 1, 0, 0, 2), 0);
        Checks.due("12: called", x.word(0, 4), 1);
        Checks.due("12: did not throw", x.word(0, 5), 0);
    }

    private static void row() {
        JavaBridge x = new JavaBridge();
        Bench.make(x, Bench.CELL, 7, 0);
        x.number(1, 1, 2);
        x.declare(2, 0, 2, 1, 0, 1, 0);
        x.declare(4, 0, 3, 1, 0, 1, 0);
        x.declare(5, 2, 2, 0, 0, 1, 0);
        x.declare(6, 0, 1, 1, 0, 0, 0);
        Checks.due("14: 2 alone", x.row(2, 1, 0, 1, 1, 3), 1);
        Checks.due("14: add", x.value(3), 9);
        Checks.due("14: 3 is not declared", x.row(3, 1, 0, 1, 1, 3), 0);
        Checks.due("14: 2 and 4", x.row(2, 3, 0, 1, 1, 3), 2);
        Checks.due("14: divide came last", x.value(3), 5);
        Checks.due("14: words are counted by number", x.row(2, 2, 0, 1, 1, 3), 1);
        Checks.due("14: only 2 was called", x.value(3), 13);
        Checks.due("14: 4 was called once", x.word(4, 4), 1);
        Checks.due("14: 5 is refused, of 6 comes a unit", x.row(4, 3, 0, 1, 1, 3), 2);
        Checks.due("14: divide", x.value(3), 6);
        Checks.due("14: 5 was not called", x.word(5, 4), 0);
        Checks.due("14: 6 was", x.word(6, 4), 1);
        Checks.due("14: shelves have not started", x.started(2), 0);
        x.row(2, 1, 0, 1, 1, 3);
        Checks.due("14: set, then add", x.value(3), 4);
        Checks.due("14: to no place", x.row(2, 3, 0, 1, 1, 10), 0);
        Checks.due("14: on no place", x.row(2, 3, -1, 1, 1, 3), 0);
        x.row(2, 1, 0, 1, 1, 3);
        Checks.due("14: neither did anything", x.value(3), 6);
    }

    private static void rowLooksAnew() {
        JavaBridge x = new JavaBridge();
        x.declare(0, 3, 1, 1, 0, 5, 0);
        x.declare(1, 1, 2, 1, 0, 1, 0);
        x.declare(2, 0, 0, 0, 0, 1, 0);
        x.declare(3, 3, 4, 1, 0, 7, 0);
        x.number(0, 1, 3);
        Checks.due("14: what comes is called on next", x.row(0, 2, 1, 0, 0, 1), 2);
        Checks.due("14: twice 3 and 3", x.value(1), 12);
        Checks.due("14: an int is no cell", x.row(2, 1, 1, 0, 0, 1), 0);
        Checks.due("14: what comes goes in next", x.row(0, 4, 5, 0, 0, 0), 1);
        Checks.due("14: a twice came", x.kind(0), 5);
    }

    private static void rowLimits() {
        JavaBridge x = new JavaBridge();
        for (int w = 0; w < 10; w++) {
            x.declare(w, 3, 5, 0, 0, 1, 0);
        }
        for (int word : new int[] {-1, 10, Integer.MIN_VALUE, Integer.MAX_VALUE}) {
            Checks.due("14: from word " + word, x.row(word, 1, 0, 0, 0, 0), -1);
            Checks.due("14: -1 ahead of -2", x.row(word, 0, 0, 0, 0, 0), -1);
        }
        for (int n : new int[] {0, -1, 11, Integer.MIN_VALUE, Integer.MAX_VALUE}) {
            Checks.due("14: of n " + n, x.row(0, n, 0, 0, 0, 0), -2);
        }
        Checks.due("14: all", x.row(0, 10, 0, 0, 0, 0), 10);
        Checks.due("14: from 9 on", x.row(9, 10, 0, 0, 0, 0), 1);
        Checks.due("14: from 4 on, 5", x.row(4, 5, 0, 0, 0, 0), 5);
        Checks.due("14: word 0", x.word(0, 4), 1);
        Checks.due("14: word 3", x.word(3, 4), 1);
        Checks.due("14: word 4", x.word(4, 4), 2);
        Checks.due("14: word 8", x.word(8, 4), 2);
        Checks.due("14: word 9", x.word(9, 4), 2);
        Checks.due("14: the places of the maker are not looked at", x.row(0, 10, -5, 99, 99, 0), 10);
    }

    private static void rowThrows() {
        JavaBridge x = new JavaBridge();
        Bench.make(x, Bench.CELL, 7, 0);
        x.number(1, 1, 0);
        x.declare(0, 0, 0, 0, 0, 1, 0);
        x.declare(1, 0, 3, 1, 0, 1, 0);
        x.declare(2, 0, 9, 0, 0, 8, 0);
        x.declare(3, 0, 2, 1, 0, 1, 0);
        Checks.due("14: two throw, two come back", x.row(0, 4, 0, 1, 1, 2), 2);
        Checks.due("14: the latest", x.latest(), 1);
        Checks.due("14: divide threw", x.word(1, 5), 1);
        Checks.due("14: kept threw", x.word(2, 5), 1);
        Checks.due("14: add came", x.value(2), 7);
        Checks.due("17: five calls by two", Checks.share(x), 2);
    }

    private static void latest() {
        JavaBridge x = new JavaBridge();
        x.number(1, 1, -1);
        x.number(2, 1, 0);
        Bench.make(x, Bench.CELL, 7, 0);
        Checks.due("15: nothing so far", x.latest(), 0);
        Bench.run(x, 3, 4, 0, 1, 0, 5);
        Checks.due("15: a length", x.latest(), 6);
        Bench.make(x, Bench.TWICE_SHELF, 1, 3);
        Bench.run(x, 2, 0, 3, 2, 0, 5);
        Checks.due("15: a store", x.latest(), 5);
        Bench.run(x, 0, 3, 0, 2, 0, 5);
        Checks.due("15: by 0", x.latest(), 4);
        Bench.run(x, 2, 1, 3, 1, 0, 5);
        Checks.due("15: an index", x.latest(), 3);
        Bench.run(x, 3, 6, 0, 0, 0, 5);
        Checks.due("15: a cast", x.latest(), 2);
        Bench.run(x, 2, 1, 3, 2, 0, 5);
        Checks.due("15: nothing", x.latest(), 1);
        Bench.run(x, 0, 0, 0, 0, 0, 5);
        Checks.due("15: it stays as a word comes back", x.latest(), 1);
        Checks.due("15: a refusal", Bench.run(x, 0, 0, 1, 0, 0, 5), -3);
        Checks.due("15: it stays as one is refused", x.latest(), 1);
        x.cell(0, 0);
        Checks.due("15: of cell()", x.latest(), 2);
        x.set(5, 0, 0);
        Checks.due("15: of set()", x.latest(), 2);
        x.move(5, -1);
        x.set(5, 0, 0);
        Checks.due("15: of set() on nothing", x.latest(), 1);
    }

    private static void started() {
        JavaBridge x = new JavaBridge();
        for (int cls : new int[] {-1, 4, Integer.MAX_VALUE, Integer.MIN_VALUE}) {
            Checks.due("16: started(" + cls + ")", x.started(cls), -1);
        }
        x.declare(0, 1, 0, 0, 0, 1, 0);
        x.declare(1, 3, 5, 0, 0, 1, 0);
        x.declare(2, 2, 2, 0, 0, 1, 0);
        x.declare(3, 0, 0, 0, 0, 1, 0);
        Checks.due("16: to declare starts nothing", x.started(1), 0);
        Checks.due("16: on nothing", x.call(2, 5, 0, 0, 4), -11);
        Checks.due("16: a call that throws starts", x.started(2), 1);
        x.call(0, 5, 0, 0, 4);
        Checks.due("16: cells ahead of twices", x.started(0), 2);
        Checks.due("16: twices", x.started(1), 3);
        Checks.due("16: the maker not yet", x.started(3), 0);
        x.call(3, 5, 0, 0, 4);
        x.call(0, 5, 0, 0, 4);
        x.call(1, 5, 0, 0, 4);
        Checks.due("16: the maker", x.started(3), 4);
        Checks.due("16: cells once", x.started(0), 2);
        Checks.due("16: twices once", x.started(1), 3);
        Checks.due("16: shelves once", x.started(2), 1);
    }

    private static void startedBehindRefusals() {
        JavaBridge x = new JavaBridge();
        x.declare(0, 1, 1, 1, 0, 0, 0);
        x.declare(1, 0, 0, 0, 0, 1, 0);
        Checks.due("16: no int goes in", x.call(0, 5, 6, 0, 4), -3);
        Checks.due("16: a refusal starts nothing", x.started(1), 0);
        Checks.due("16: to no place", x.call(1, 5, 0, 0, 10), -1);
        Checks.due("16: a refusal starts nothing", x.started(0), 0);
        x.call(1, 5, 0, 0, 4);
        Checks.due("16: cells alone", x.started(0), 1);
        Checks.due("16: twices not", x.started(1), 0);
        x.number(6, 1, 1);
        x.call(0, 5, 6, 0, 4);
        Checks.due("16: cells stay", x.started(0), 1);
        Checks.due("16: twices second", x.started(1), 2);
        Bench.make(x, Bench.SHELF, 1, 3);
        Checks.due("16: made shelves do not start them", x.started(2), 0);
        Checks.due("16: the maker third", x.started(3), 3);
    }

    private static void share() {
        JavaBridge x = new JavaBridge();
        x.declare(0, 3, 5, 0, 0, 1, 0);
        x.declare(1, 0, 0, 0, 0, 1, 0);
        Checks.due("17: no call", Checks.share(x), Checks.NO_SHARE);
        x.row(0, 1, 0, 0, 0, 0);
        x.call(0, 0, 0, 0, 0);
        Checks.due("17: none threw", Checks.share(x), Checks.NO_SHARE);
        x.call(1, 5, 0, 0, 0);
        Checks.due("17: 3 by 1", Checks.share(x), 3);
        x.call(1, 5, 0, 0, 0);
        Checks.due("17: 4 by 2", Checks.share(x), 2);
        x.call(0, 0, 0, 0, 0);
        Checks.due("17: 5 by 2", Checks.share(x), 2);
        x.cell(5, 0);
        x.set(5, 0, 0);
        Checks.due("17: cell() and set() are no words", Checks.share(x), 2);
        x.call(1, 0, 0, 0, 0);
        Checks.due("17: a refusal is no call", Checks.share(x), 2);
        x.declare(1, 3, 5, 0, 0, 1, 0);
        Checks.due("17: what was declared before counts", Checks.share(x), 2);
        x.call(1, 0, 0, 0, 0);
        Checks.due("17: 6 by 2", Checks.share(x), 3);
    }
}
