import java.util.Random;

/**
 * Mixed runs of some 500 calls each, as behind 512 nothing is promised; every answer is held against that of the Oracle.
 * The seeds are written, so runs repeat.
 */
public final class OracleTest {
    private static final int RUNS = 18000;
    private static final int CALLS = 512;
    private static final int MOST_CALLS_OF_A_STEP = 10;
    private static final int MOST_WRONG = 20;
    private static final int[] WILD = {-1, -2, 10, 16, 17, 77, Integer.MIN_VALUE, Integer.MAX_VALUE};
    private static final long[] NUMBERS = {0, 1, 2, 3, 5, 15, 16, 17, -1, -2, Integer.MIN_VALUE, Integer.MAX_VALUE};
    private static final int SMALL_NUMBERS = 3;

    /** The kinds of what the maker's first members make. */
    private static final int[] THINGS = {4, 5, 6, 6, 7};

    /** What the runs must reach in all, so that a change in how they are drawn can't make this test an empty one. */
    private static final int LEAST_OF_EACH = 300;
    private static final int[][] CAME_BACK = {new int[10], new int[11], new int[5], new int[7]};
    private static final int[] THREW = new int[7];

    private final Random random;
    private final JavaBridge x = new JavaBridge();
    private final Oracle o = new Oracle();

    /** How often an argument is drawn from anywhere instead of where it makes sense: one time in so many. */
    private final int oneWildIn;

    /** Whether words of shelves are declared more often, and numbers are mostly such as a shelf has cells for. */
    private final boolean forShelves;

    private OracleTest(int run) {
        random = new Random(run);
        oneWildIn = run % 3 == 0 ? 6 : 60;
        forShelves = run % 2 == 0;
    }

    /** One thing of each sort, in places 1 to 5, and a word in each number: without these most calls would be refused. */
    private void prepare(String at) {
        for (int what = 0; what < THINGS.length; what++) {
            declareAs(at, 9, 3, what, 1, 0, THINGS[what], 0);
            numberAs(at, 0, 1, what < 2 ? anyNumber() : random.nextInt(5));
            callAs(at, 9, 0, 0, 0, what + 1);
        }
        for (int word = 0; word < 10; word++) {
            declare(at, word);
        }
    }

    public static void main(String[] args) {
        for (int run = 0; run < RUNS && Checks.wrongSoFar() < MOST_WRONG; run++) {
            OracleTest test = new OracleTest(run);
            int before = Checks.wrongSoFar();
            int last = Checks.askedSoFar() + CALLS - MOST_CALLS_OF_A_STEP;
            if (run % 4 != 0) {
                test.prepare("run " + run + ", ahead of its steps: ");
            }
            for (int i = 0; Checks.askedSoFar() <= last && Checks.wrongSoFar() == before; i++) {
                test.step("run " + run + ", step " + i + ": ");
            }
        }
        reachedAll();
        Checks.finish("OracleTest");
    }

    private static void reachedAll() {
        for (int cls = 0; cls < CAME_BACK.length; cls++) {
            for (int m = 0; m < CAME_BACK[cls].length; m++) {
                Checks.holds("member " + m + " of class " + cls + " came back often enough", CAME_BACK[cls][m] >= LEAST_OF_EACH);
            }
        }
        for (int kind = 1; kind < THREW.length; kind++) {
            Checks.holds("kind " + kind + " was thrown often enough", THREW[kind] >= LEAST_OF_EACH);
        }
    }

    private int below(int n) {
        if (random.nextInt(oneWildIn) == 0) {
            return WILD[random.nextInt(WILD.length)];
        }
        return random.nextInt(n);
    }

    private void step(String at) {
        int dice = random.nextInt(100);
        if (dice < 14) {
            declare(at, below(10));
        } else if (dice < 26) {
            number(at);
        } else if (dice < 66) {
            call(at);
        } else if (dice < 72) {
            row(at);
        } else if (dice < 84) {
            look(at);
        } else {
            places(at);
        }
    }

    /** Mostly as the member has it, so that words come to stand; at times with one kind off. */
    private void declare(String at, int word) {
        int cls = random.nextInt(8) == 0 ? 3 : forShelves && random.nextInt(2) == 0 ? 2 : below(4);
        int m = below(Math.max(1, o.members(cls)));
        int a = random.nextInt(20) == 0 ? below(9) : Math.max(0, o.member(cls, m, 0));
        int b = random.nextInt(20) == 0 ? below(9) : Math.max(0, o.member(cls, m, 1));
        int out = random.nextInt(8) == 0 ? below(9) : Math.max(0, o.member(cls, m, 2));
        int marks = random.nextInt(4) > 0 ? 0 : below(8);
        declareAs(at, word, cls, m, a, b, out, marks);
    }

    private void declareAs(String at, int word, int cls, int m, int a, int b, int out, int marks) {
        Checks.due(at + "declare(" + word + ", " + cls + ", " + m + ", " + a + ", " + b + ", " + out + ", " + marks + ")",
            x.declare(word, cls, m, a, b, out, marks), o.declare(word, cls, m, a, b, out, marks));
    }

    private void number(String at) {
        int place = placeToFill();
        int kind = random.nextInt(3) > 0 ? 1 : below(4);
        numberAs(at, place, kind, random.nextInt(8) == 0 ? random.nextLong() : anyNumber());
    }

    private long anyNumber() {
        return NUMBERS[random.nextInt(forShelves && random.nextInt(4) > 0 ? SMALL_NUMBERS : NUMBERS.length)];
    }

    private void numberAs(String at, int place, int kind, long v) {
        Checks.due(at + "number(" + place + ", " + kind + ", " + v + ")", x.number(place, kind, v), o.number(place, kind, v));
    }

    /** A place that holds what a kind asks for, if one is found soon: without this most calls would be refused. */
    private int placeFor(int kind) {
        for (int tries = 0; tries < 12; tries++) {
            int place = random.nextInt(10);
            int held = o.kind(place);
            if (held == kind || kind == 8 && held >= 4 || kind == 4 && held == 5) {
                return place;
            }
        }
        return below(10);
    }

    private void call(String at) {
        int word = below(10);
        int cls = o.word(word, 0);
        int m = o.word(word, 1);
        int on = placeFor(cls + 4);
        int a = placeFor(o.member(cls, m, 0));
        int b = placeFor(o.member(cls, m, 1));
        callAs(at, word, on, a, b, placeToFill());
    }

    /** Mostly one of the places that a run starts with empty, so that things stay where they are for a while. */
    private int placeToFill() {
        return random.nextInt(3) > 0 ? 6 + random.nextInt(4) : below(10);
    }

    private void callAs(String at, int word, int on, int a, int b, int to) {
        int cls = o.word(word, 0);
        int m = o.word(word, 1);
        int due = o.call(word, on, a, b, to);
        Checks.due(at + "call(" + word + ", " + on + ", " + a + ", " + b + ", " + to + ")", x.call(word, on, a, b, to), due);
        if (due >= 0) {
            CAME_BACK[cls][m]++;
        } else if (due < -10) {
            THREW[-10 - due]++;
        }
        lookAt(at, to);
    }

    private void row(String at) {
        int word = below(10);
        int n = random.nextInt(10) == 0 ? below(12) : 1 + random.nextInt(10);
        int on = placeFor(4 + random.nextInt(3));
        int a = placeFor(1 + random.nextInt(8));
        int b = placeFor(4);
        int to = placeToFill();
        Checks.due(at + "row(" + word + ", " + n + ", " + on + ", " + a + ", " + b + ", " + to + ")",
            x.row(word, n, on, a, b, to), o.row(word, n, on, a, b, to));
        lookAt(at, to);
    }

    /** One look of three at a time, as each is one of the 512 calls. */
    private void lookAt(String at, int place) {
        switch (random.nextInt(3)) {
            case 0: Checks.due(at + "kind(" + place + ")", x.kind(place), o.kind(place)); break;
            case 1: Checks.due(at + "value(" + place + ")", x.value(place), o.value(place)); break;
            default: Checks.due(at + "latest()", x.latest(), o.latest()); break;
        }
    }

    private void look(String at) {
        int word = below(10);
        int what = below(7);
        Checks.due(at + "word(" + word + ", " + what + ")", x.word(word, what), o.word(word, what));
        int cls = below(5);
        int m = below(12);
        Checks.due(at + "started(" + cls + ")", x.started(cls), o.started(cls));
        Checks.due(at + "members(" + cls + ")", x.members(cls), o.members(cls));
        Checks.due(at + "member(" + cls + ", " + m + ", " + what + ")", x.member(cls, m, what), o.member(cls, m, what));
        Checks.due(at + "share()", Checks.share(x), shareOfOracle());
        lookAt(at, below(10));
    }

    private long shareOfOracle() {
        try {
            return o.share();
        } catch (ArithmeticException e) {
            return Checks.NO_SHARE;
        }
    }

    private void places(String at) {
        int place = below(10);
        int other = random.nextInt(8) == 0 ? -1 : below(10);
        int i = below(4);
        int v = random.nextInt(12) - 3;
        int row = placeFor(7);
        switch (random.nextInt(4)) {
            case 0:
                Checks.due(at + "move(" + place + ", " + other + ")", x.move(place, other), o.move(place, other));
                break;
            case 1:
                Checks.due(at + "same(" + place + ", " + other + ")", x.same(place, other), o.same(place, other));
                break;
            case 2:
                Checks.due(at + "cell(" + row + ", " + i + ")", x.cell(row, i), o.cell(row, i));
                break;
            default:
                Checks.due(at + "set(" + row + ", " + i + ", " + v + ")", x.set(row, i, v), o.set(row, i, v));
                break;
        }
        lookAt(at, row);
    }
}
