import java.util.Random;

/**
 * Mixed runs of some 500 calls each, as behind 512 nothing is promised; every answer is held against that of the Oracle.
 * The seeds are written, so runs repeat.
 */
public final class OracleTest {
    private static final int RUNS = 9000;
    private static final int CALLS = 512;
    private static final int MOST_CALLS_OF_A_STEP = 10;
    private static final int MOST_WRONG = 20;
    private static final int[] WILD = {-1, -2, 10, 16, 17, 77, Integer.MIN_VALUE, Integer.MAX_VALUE};
    private static final long[] NUMBERS = {0, 1, 2, 3, 5, 15, 16, 17, -1, -2, Integer.MIN_VALUE, Integer.MAX_VALUE};

    private final Random random;
    private final JavaBridge x = new JavaBridge();
    private final Oracle o = new Oracle();

    /** How often an argument is drawn from anywhere instead of where it makes sense: one time in so many. */
    private final int oneWildIn;

    private OracleTest(int run) {
        random = new Random(run);
        oneWildIn = run % 3 == 0 ? 6 : 60;
    }

    public static void main(String[] args) {
        for (int run = 0; run < RUNS && Checks.wrongSoFar() < MOST_WRONG; run++) {
            OracleTest test = new OracleTest(run);
            int before = Checks.wrongSoFar();
            int last = Checks.askedSoFar() + CALLS - MOST_CALLS_OF_A_STEP;
            for (int i = 0; Checks.askedSoFar() <= last && Checks.wrongSoFar() == before; i++) {
                test.step("run " + run + ", step " + i + ": ");
            }
        }
        Checks.finish("OracleTest");
    }

    private int below(int n) {
        if (random.nextInt(oneWildIn) == 0) {
            return WILD[random.nextInt(WILD.length)];
        }
        return random.nextInt(n);
    }

    private void step(String at) {
        int dice = random.nextInt(100);
        if (dice < 14) {
            declare(at);
        } else if (dice < 26) {
            number(at);
        } else if (dice < 66) {
            call(at);
        } else if (dice < 72) {
            row(at);
        } else if (dice < 84) {
            look(at);
        } else {
            places(at);
        }
    }

    /** Mostly as the member has it, so that words come to stand; at times with one kind off. */
    private void declare(String at) {
        int word = below(10);
        int cls = random.nextInt(3) == 0 ? 3 : below(4);
        int m = below(Math.max(1, o.members(cls)));
        int a = random.nextInt(20) == 0 ? below(9) : Math.max(0, o.member(cls, m, 0));
        int b = random.nextInt(20) == 0 ? below(9) : Math.max(0, o.member(cls, m, 1));
        int out = random.nextInt(4) == 0 ? below(9) : Math.max(0, o.member(cls, m, 2));
        int marks = random.nextInt(2) == 0 ? 0 : below(8);
        Checks.due(at + "declare(" + word + ", " + cls + ", " + m + ", " + a + ", " + b + ", " + out + ", " + marks + ")",
            x.declare(word, cls, m, a, b, out, marks), o.declare(word, cls, m, a, b, out, marks));
    }

    private void number(String at) {
        int place = below(10);
        int kind = random.nextInt(3) > 0 ? 1 : below(4);
        long v = random.nextInt(8) == 0 ? random.nextLong() : NUMBERS[random.nextInt(NUMBERS.length)];
        Checks.due(at + "number(" + place + ", " + kind + ", " + v + ")", x.number(place, kind, v), o.number(place, kind, v));
    }

    /** A place that holds what a kind asks for, if one is found soon: without this most calls would be refused. */
    private int placeFor(int kind) {
        for (int tries = 0; tries < 12; tries++) {
            int place = random.nextInt(10);
            int held = o.kind(place);
            if (held == kind || kind == 8 && held >= 4 || kind == 4 && held == 5) {
                return place;
            }
        }
        return below(10);
    }

    private void call(String at) {
        int word = below(10);
        int cls = o.word(word, 0);
        int m = o.word(word, 1);
        int on = placeFor(cls + 4);
        int a = placeFor(o.member(cls, m, 0));
        int b = placeFor(o.member(cls, m, 1));
        int to = below(10);
        Checks.due(at + "call(" + word + ", " + on + ", " + a + ", " + b + ", " + to + ")",
            x.call(word, on, a, b, to), o.call(word, on, a, b, to));
        lookAt(at, to);
    }

    private void row(String at) {
        int word = below(10);
        int n = random.nextInt(10) == 0 ? below(12) : 1 + random.nextInt(10);
        int on = placeFor(4 + random.nextInt(3));
        int a = placeFor(1 + random.nextInt(8));
        int b = placeFor(4);
        int to = below(10);
        Checks.due(at + "row(" + word + ", " + n + ", " + on + ", " + a + ", " + b + ", " + to + ")",
            x.row(word, n, on, a, b, to), o.row(word, n, on, a, b, to));
        lookAt(at, to);
    }

    private void lookAt(String at, int place) {
        Checks.due(at + "kind(" + place + ")", x.kind(place), o.kind(place));
        Checks.due(at + "value(" + place + ")", x.value(place), o.value(place));
        Checks.due(at + "latest()", x.latest(), o.latest());
    }

    private void look(String at) {
        int word = below(10);
        int what = below(7);
        Checks.due(at + "word(" + word + ", " + what + ")", x.word(word, what), o.word(word, what));
        int cls = below(5);
        int m = below(12);
        Checks.due(at + "started(" + cls + ")", x.started(cls), o.started(cls));
        Checks.due(at + "members(" + cls + ")", x.members(cls), o.members(cls));
        Checks.due(at + "member(" + cls + ", " + m + ", " + what + ")", x.member(cls, m, what), o.member(cls, m, what));
        Checks.due(at + "share()", Checks.share(x), shareOfOracle());
        lookAt(at, below(10));
    }

    private long shareOfOracle() {
        try {
            return o.share();
        } catch (ArithmeticException e) {
            return Checks.NO_SHARE;
        }
    }

    private void places(String at) {
        int place = below(10);
        int other = random.nextInt(8) == 0 ? -1 : below(10);
        int i = below(4);
        int v = random.nextInt(12) - 3;
        int row = placeFor(7);
        switch (random.nextInt(4)) {
            case 0:
                Checks.due(at + "move(" + place + ", " + other + ")", x.move(place, other), o.move(place, other));
                break;
            case 1:
                Checks.due(at + "same(" + place + ", " + other + ")", x.same(place, other), o.same(place, other));
                break;
            case 2:
                Checks.due(at + "cell(" + row + ", " + i + ")", x.cell(row, i), o.cell(row, i));
                break;
            default:
                Checks.due(at + "set(" + row + ", " + i + ", " + v + ")", x.set(row, i, v), o.set(row, i, v));
                break;
        }
        lookAt(at, row);
    }
}
