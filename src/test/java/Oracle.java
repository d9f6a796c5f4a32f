import java.util.ArrayList;
import java.util.List;

/**
 * The document once more, written the other way round: the host is made of real Java classes and arrays, the
 * machine throws by itself, and what it threw is told by its class.
 */
final class Oracle {
    private static class Cell {
        int v;
        Object kept;

        Cell(int v) {
            this.v = v;
        }

        int get() {
            return v;
        }
    }

    private static final class Twice extends Cell {
        Twice(int v) {
            super(v);
        }

        @Override
        int get() {
            return 2 * v;
        }
    }

    private static final class Shelf {
        final Cell[] cells;

        Shelf(Cell[] cells) {
            this.cells = cells;
        }
    }

    private record Word(int cls, int m, int a, int b, int out, int marks, int[] counts) {
    }

    private static final Class<?>[] KINDS = {
        Void.class, Integer.class, Long.class, Double.class, Cell.class, Twice.class, Shelf.class, int[].class, Object.class,
    };
    private static final Class<?>[] HOSTS = {Cell.class, Twice.class, Shelf.class};
    private static final String[][] MEMBERS = {
        {"001", "100", "101", "101", "002", "003", "801", "701", "800", "008"},
        {"001", "100", "101", "101", "002", "003", "801", "701", "800", "008", "005"},
        {"140", "104", "001", "001", "701"},
        {"104", "105", "106", "106", "107", "001", "805"},
    };
    private static final List<String> CHANGERS =
        List.of("0.1", "0.2", "0.7", "0.8", "1.1", "1.2", "1.7", "1.8", "2.0", "3.0", "3.1", "3.2", "3.3", "3.4");

    private final Object[] places = new Object[10];
    private final Word[] words = new Word[10];
    private final List<Integer> startedInOrder = new ArrayList<>();
    private int made;
    private int calls;
    private int threw;
    private int latest;

    private static boolean isPlace(int place) {
        return place >= 0 && place <= 9;
    }

    private static boolean isNumber(Object o) {
        return o instanceof Number;
    }

    private static int kindOf(Object o) {
        for (int kind = 7; kind > 0; kind--) {
            if (KINDS[kind].isInstance(o)) {
                return kind;
            }
        }
        return 0;
    }

    int number(int place, int kind, long v) {
        if (!isPlace(place)) {
            return -1;
        }
        switch (kind) {
            case 1:
                if (v < Integer.MIN_VALUE || v > Integer.MAX_VALUE) {
                    return -2;
                }
                places[place] = (int) v;
                return 1;
            case 2: places[place] = v; return 1;
            case 3: places[place] = (double) v; return 1;
            default: return -2;
        }
    }

    int move(int place, int from) {
        if (!isPlace(place) || from != -1 && !isPlace(from)) {
            return -1;
        }
        places[place] = from == -1 ? null : places[from];
        return kindOf(places[place]);
    }

    int kind(int place) {
        return isPlace(place) ? kindOf(places[place]) : -1;
    }

    long value(int place) {
        Object o = isPlace(place) ? places[place] : null;
        if (o instanceof Double d) {
            return Double.doubleToLongBits(d);
        }
        return o instanceof Number n ? n.longValue() : Long.MIN_VALUE;
    }

    int same(int place, int other) {
        if (!isPlace(place) || !isPlace(other)) {
            return -1;
        }
        Object one = places[place];
        Object two = places[other];
        return one == two || isNumber(one) && one.equals(two) ? 1 : 0;
    }

    private static int thrownBy(RuntimeException e) {
        if (e instanceof NullPointerException) {
            return 1;
        }
        if (e instanceof ClassCastException) {
            return 2;
        }
        if (e instanceof IndexOutOfBoundsException) {
            return 3;
        }
        if (e instanceof ArithmeticException) {
            return 4;
        }
        if (e instanceof ArrayStoreException) {
            return 5;
        }
        if (e instanceof NegativeArraySizeException) {
            return 6;
        }
        throw e;
    }

    long cell(int place, int i) {
        if (!isPlace(place)) {
            return Long.MIN_VALUE;
        }
        try {
            return ((int[]) places[place])[i];
        } catch (RuntimeException e) {
            latest = thrownBy(e);
            return Long.MIN_VALUE;
        }
    }

    int set(int place, int i, int v) {
        if (!isPlace(place)) {
            return -1;
        }
        try {
            ((int[]) places[place])[i] = v;
            return 1;
        } catch (RuntimeException e) {
            latest = thrownBy(e);
            return -10 - latest;
        }
    }

    int members(int cls) {
        return cls >= 0 && cls < 4 ? MEMBERS[cls].length : -1;
    }

    int member(int cls, int m, int what) {
        if (m < 0 || m >= members(cls)) {
            return -1;
        }
        return what < 0 || what > 2 ? -2 : MEMBERS[cls][m].charAt(what) - '0';
    }

    int declare(int word, int cls, int m, int a, int b, int out, int marks) {
        if (word < 0 || word > 9 || m < 0 || m >= members(cls)) {
            return -1;
        }
        for (int kind : new int[] {a, b, out}) {
            if (kind < 0 || kind > 8) {
                return -2;
            }
        }
        if (a == 0 && b > 0 || marks < 0 || marks > 7) {
            return -2;
        }
        int comes = member(cls, m, 2);
        boolean narrows = comes == 8 && out >= 4 || comes == 4 && out == 5;
        if (a != member(cls, m, 0) || b != member(cls, m, 1) || out != comes && !narrows) {
            return -3;
        }
        boolean ill = (marks & 1) == 1 && out < 4 || (marks & 2) == 2 && a != 7 && b != 7
            || (marks & 4) == 4 && CHANGERS.contains(cls + "." + m);
        if (ill) {
            return -3;
        }
        words[word] = new Word(cls, m, a, b, out, marks, new int[2]);
        return 1;
    }

    int word(int word, int what) {
        if (word < 0 || word > 9 || words[word] == null) {
            return -1;
        }
        Word w = words[word];
        int[] told = {w.cls, w.m, w.out, w.marks, w.counts[0], w.counts[1]};
        return what < 0 || what > 5 ? -2 : told[what];
    }

    private static boolean goesIn(int kind, Object o) {
        if (kind == 0) {
            return true;
        }
        if (kind < 4) {
            return kindOf(o) == kind;
        }
        return o == null || !isNumber(o) && KINDS[kind].isInstance(o);
    }

    int call(int word, int on, int a, int b, int to) {
        if (word < 0 || word > 9 || words[word] == null || !isPlace(to)) {
            return -1;
        }
        Word w = words[word];
        if (w.cls != 3 && !isPlace(on) || w.a != 0 && !isPlace(a) || w.b != 0 && !isPlace(b)) {
            return -1;
        }
        Object host = w.cls == 3 ? null : places[on];
        Object x = w.a == 0 ? null : places[a];
        Object y = w.b == 0 ? null : places[b];
        if (!goesIn(w.a, x) || !goesIn(w.b, y) || host != null && !HOSTS[w.cls].isInstance(host)) {
            return -3;
        }
        begin(w);
        try {
            Object came = run(w, host, (w.marks & 2) == 2 && x != null ? ((int[]) x).clone() : x, y);
            if (w.out == 0) {
                return 0;
            }
            came = KINDS[w.out].cast(came);
            if (came == null && (w.marks & 1) == 0) {
                throw new NullPointerException();
            }
            places[to] = came;
            return kindOf(came);
        } catch (RuntimeException e) {
            latest = thrownBy(e);
            w.counts[1]++;
            threw++;
            return -10 - latest;
        }
    }

    private void begin(Word w) {
        if (w.cls == 1 && !startedInOrder.contains(0)) {
            startedInOrder.add(0);
        }
        if (!startedInOrder.contains(w.cls)) {
            startedInOrder.add(w.cls);
        }
        w.counts[0]++;
        calls++;
    }

    private Object run(Word w, Object host, Object x, Object y) {
        switch (w.cls) {
            case 2: return runShelf(w.m, (Shelf) host, x, (Cell) y);
            case 3: return runMaker(w.m, x);
            default: return runCell(w.m, (Cell) host, x);
        }
    }

    private static Object runCell(int m, Cell on, Object x) {
        int get = on.get();
        switch (m) {
            case 0: return get;
            case 1: on.v = (Integer) x; return null;
            case 2: on.v += (Integer) x; return on.get();
            case 3: return get / (Integer) x;
            case 4: return get * 1000000007L;
            case 5: return get / 2.0;
            case 6: return on == x ? 1 : 0;
            case 7: ((int[]) x)[on.v] = get; return on.v;
            case 8: on.kept = x; return null;
            case 9: return on.kept;
            default: return (Twice) on;
        }
    }

    private static Object runShelf(int m, Shelf on, Object x, Cell y) {
        switch (m) {
            case 0: on.cells[(Integer) x] = y; return null;
            case 1: return on.cells[(Integer) x];
            case 2: return on.cells.length;
            case 3: {
                int sum = 0;
                for (Cell c : on.cells) {
                    sum += c.get();
                }
                return sum;
            }
            default: {
                Cell[] cells = on.cells;
                int wanted = ((int[]) x)[0];
                for (int i = 0; i < cells.length; i++) {
                    if (cells[i].v == wanted) {
                        return i;
                    }
                }
                return -1;
            }
        }
    }

    private Object runMaker(int m, Object x) {
        if (m == 5) {
            return made;
        }
        if (m == 6) {
            return (Twice) x;
        }
        int n = (Integer) x;
        Object thing = newThing(m, n, Math.min(n, 16));
        made++;
        return thing;
    }

    private static Object newThing(int m, int v, int length) {
        switch (m) {
            case 0: return new Cell(v);
            case 1: return new Twice(v);
            case 2: return new Shelf(new Cell[length]);
            case 3: return new Shelf(new Twice[length]);
            default: return new int[length];
        }
    }

    int row(int word, int n, int on, int a, int b, int to) {
        if (word < 0 || word > 9) {
            return -1;
        }
        if (n < 1 || n > 10) {
            return -2;
        }
        int back = 0;
        for (int w = word; w <= Math.min(9, word + n - 1); w++) {
            back += call(w, on, a, b, to) >= 0 ? 1 : 0;
        }
        return back;
    }

    int latest() {
        return latest;
    }

    int started(int cls) {
        return cls < 0 || cls > 3 ? -1 : startedInOrder.indexOf(cls) + 1;
    }

    int share() {
        return calls / threw;
    }
}
