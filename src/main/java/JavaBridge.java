/**
 * Words of a language, declared for members of a host's classes and held against them by their kinds.
 *
 * What the host throws is never a Java exception in here: each fault is tested for ahead of the act
 * and is carried as a number in the one {@link Answer}.
 */
public final class JavaBridge {

    public static final long NOTHING = Long.MIN_VALUE;

    private static final int PLACE_COUNT = 10;
    private static final int WORD_COUNT = 10;
    private static final int CLASS_COUNT = 4;

    private static final int UNIT = 0;
    private static final int INT = 1;
    private static final int LONG = 2;
    private static final int REAL = 3;
    private static final int CELL = 4;
    private static final int TWICE = 5;
    private static final int SHELF = 6;
    private static final int INTS = 7;
    private static final int ANY = 8;

    private static final int CELLS = 0;
    private static final int TWICES = 1;
    private static final int SHELVES = 2;
    private static final int MAKER = 3;

    private static final int MAY = 1;
    private static final int COPY = 2;
    private static final int PURE = 4;
    private static final int ALL_MARKS = 7;

    private static final int THROWN_NOTHING = 1;
    private static final int THROWN_CAST = 2;
    private static final int THROWN_INDEX = 3;
    private static final int THROWN_BY_ZERO = 4;
    private static final int THROWN_STORE = 5;
    private static final int THROWN_LENGTH = 6;
    private static final int THROWN_BASE = -10;

    private static final int NO_SUCH = -1;
    private static final int OUTSIDE = -2;
    private static final int UNFIT = -3;

    private static final int LONGEST = 16;
    private static final long WIDENER = 1000000007L;

    /** A member's columns: the two kinds that go in, the kind that comes, and whether it changes something. */
    private static final int COLUMNS = 4;
    private static final int OUT_COLUMN = 2;
    private static final int CHANGES_COLUMN = 3;

    private static final int[] MEMBER_COUNTS = {10, 11, 5, 7};

    private static final int[] CELL_MEMBERS = {
        UNIT, UNIT, INT, 0, // get
        INT, UNIT, UNIT, 1, // set
        INT, UNIT, INT, 1, // add
        INT, UNIT, INT, 0, // divide
        UNIT, UNIT, LONG, 0, // wide
        UNIT, UNIT, REAL, 0, // half
        ANY, UNIT, INT, 0, // same
        INTS, UNIT, INT, 1, // put
        ANY, UNIT, UNIT, 1, // keep
        UNIT, UNIT, ANY, 0, // kept
        UNIT, UNIT, TWICE, 0, // self, of twices alone
    };

    private static final int[] SHELF_MEMBERS = {
        INT, CELL, UNIT, 1, // put
        INT, UNIT, CELL, 0, // at
        UNIT, UNIT, INT, 0, // size
        UNIT, UNIT, INT, 0, // sum
        INTS, UNIT, INT, 0, // first
    };

    private static final int[] MAKER_MEMBERS = {
        INT, UNIT, CELL, 1, // cell
        INT, UNIT, TWICE, 1, // twice
        INT, UNIT, SHELF, 1, // shelf
        INT, UNIT, SHELF, 1, // shelf of twices
        INT, UNIT, INTS, 1, // ints
        UNIT, UNIT, INT, 0, // made
        ANY, UNIT, TWICE, 0, // as
    };

    private final Slot[] slots = new Slot[PLACE_COUNT];
    private final Word[] words = new Word[WORD_COUNT];
    private final int[] startedAs = new int[CLASS_COUNT];
    private final Maker maker = new Maker();

    /** Stands for a place that a call does not look at: it holds nothing, always. */
    private final Slot unseen = new Slot();
    private final Slot firstIn = new Slot();
    private final Slot secondIn = new Slot();
    private final Answer answer = new Answer();

    private int startedCount;
    private int callCount;
    private int thrownCount;
    private int latestThrown;

    public JavaBridge() {
        for (int i = 0; i < PLACE_COUNT; i++) {
            slots[i] = new Slot();
        }
        for (int i = 0; i < WORD_COUNT; i++) {
            words[i] = new Word();
        }
    }

    // ---- places

    public int number(int place, int kind, long v) {
        Slot slot = slotAt(place);
        if (slot == null) {
            return NO_SUCH;
        }
        if (kind < INT || kind > REAL || (kind == INT && v != (int) v)) {
            return OUTSIDE;
        }
        slot.hold(kind, kind == REAL ? bitsOf((double) v) : v, null);
        return 1;
    }

    public int move(int place, int from) {
        Slot slot = slotAt(place);
        Slot source = from == -1 ? unseen : slotAt(from);
        if (slot == null || source == null) {
            return NO_SUCH;
        }
        slot.copyFrom(source);
        return slot.kind;
    }

    public int kind(int place) {
        Slot slot = slotAt(place);
        return slot == null ? NO_SUCH : slot.kind;
    }

    public long value(int place) {
        Slot slot = slotAt(place);
        return slot == null || !slot.holdsNumber() ? NOTHING : slot.number;
    }

    public int same(int place, int other) {
        Slot one = slotAt(place);
        Slot two = slotAt(other);
        if (one == null || two == null) {
            return NO_SUCH;
        }
        return one.isLike(two) ? 1 : 0;
    }

    public long cell(int place, int i) {
        Slot slot = slotAt(place);
        if (slot == null) {
            return NOTHING;
        }
        Ints ints = reachInts(slot, i);
        return ints == null ? NOTHING : ints.read(i);
    }

    public int set(int place, int i, int v) {
        Slot slot = slotAt(place);
        if (slot == null) {
            return NO_SUCH;
        }
        Ints ints = reachInts(slot, i);
        if (ints == null) {
            return THROWN_BASE - latestThrown;
        }
        ints.write(i, v);
        return 1;
    }

    private Slot slotAt(int place) {
        return place >= 0 && place < slots.length ? slots[place] : null;
    }

    /** The row in a slot if it has a cell i; else what this throws is noted, and the answer is null. */
    private Ints reachInts(Slot slot, int i) {
        if (slot.kind == UNIT) {
            latestThrown = THROWN_NOTHING;
            return null;
        }
        if (!(slot.thing instanceof Ints ints)) {
            latestThrown = THROWN_CAST;
            return null;
        }
        if (!ints.has(i)) {
            latestThrown = THROWN_INDEX;
            return null;
        }
        return ints;
    }

    /**
     * The bits are found by halving and doubling, which is exact here: the library's own function is
     * not open to this program. Reals come of whole numbers and of their halves alone, so each is 0,
     * or its size is 0.5 to 2 to the 63; none is less than that, negative zero, or no number.
     */
    private static long bitsOf(double real) {
        if (real == 0.0) {
            return 0L;
        }
        long sign = real < 0 ? Long.MIN_VALUE : 0L;
        double size = real < 0 ? -real : real;
        long exponent = 1023L;
        for (int i = 0; i < 1100 && size >= 2.0; i++) {
            size = size / 2.0;
            exponent++;
        }
        for (int i = 0; i < 1100 && size < 1.0; i++) {
            size = size * 2.0;
            exponent--;
        }
        long fraction = (long) ((size - 1.0) * 4503599627370496.0);
        return sign | (exponent << 52) | fraction;
    }

    // ---- words

    public int members(int cls) {
        return isClass(cls) ? MEMBER_COUNTS[cls] : NO_SUCH;
    }

    public int member(int cls, int m, int what) {
        if (!isMember(cls, m)) {
            return NO_SUCH;
        }
        if (what < 0 || what > OUT_COLUMN) {
            return OUTSIDE;
        }
        return column(cls, m, what);
    }

    public int declare(int word, int cls, int m, int a, int b, int out, int marks) {
        Word w = wordAt(word);
        if (w == null || !isMember(cls, m)) {
            return NO_SUCH;
        }
        if (!areKinds(a, b, out) || marks < 0 || marks > ALL_MARKS) {
            return OUTSIDE;
        }
        boolean goesIn = a == column(cls, m, 0) && b == column(cls, m, 1);
        if (!goesIn || !mayCome(column(cls, m, OUT_COLUMN), out)) {
            return UNFIT;
        }
        boolean changes = column(cls, m, CHANGES_COLUMN) == 1;
        if (!marksFit(marks, a == INTS || b == INTS, out >= CELL, changes)) {
            return UNFIT;
        }
        w.become(cls, m, a, b, out, marks);
        return 1;
    }

    public int word(int word, int what) {
        Word w = declaredWord(word);
        if (w == null) {
            return NO_SUCH;
        }
        switch (what) {
            case 0: return w.cls;
            case 1: return w.m;
            case 2: return w.out;
            case 3: return w.marks;
            case 4: return w.calls;
            case 5: return w.threw;
            default: return OUTSIDE;
        }
    }

    public int call(int word, int on, int a, int b, int to) {
        Word w = declaredWord(word);
        Slot target = slotAt(to);
        if (w == null || target == null) {
            return NO_SUCH;
        }
        Slot host = lookedAt(w.hostKind(), on);
        Slot first = lookedAt(w.first, a);
        Slot second = lookedAt(w.second, b);
        if (host == null || first == null || second == null) {
            return NO_SUCH;
        }
        if (!host.fits(w.hostKind()) || !first.fits(w.first) || !second.fits(w.second)) {
            return UNFIT;
        }
        takeIn(firstIn, first, w);
        takeIn(secondIn, second, w);
        perform(w, host.thing);
        return settle(w, target);
    }

    public int row(int word, int n, int on, int a, int b, int to) {
        if (!isWord(word)) {
            return NO_SUCH;
        }
        if (n < 1 || n > WORD_COUNT) {
            return OUTSIDE;
        }
        int cameBack = 0;
        for (int w = word; w < WORD_COUNT && w - word < n; w++) {
            if (call(w, on, a, b, to) >= 0) {
                cameBack++;
            }
        }
        return cameBack;
    }

    public int latest() {
        return latestThrown;
    }

    public int started(int cls) {
        return isClass(cls) ? startedAs[cls] : NO_SUCH;
    }

    public int share() throws ArithmeticException {
        if (thrownCount == 0) {
            throw new ArithmeticException("no word threw so far");
        }
        return callCount / thrownCount;
    }

    private static boolean isClass(int cls) {
        return cls >= 0 && cls < CLASS_COUNT;
    }

    private static boolean isMember(int cls, int m) {
        return isClass(cls) && m >= 0 && m < MEMBER_COUNTS[cls];
    }

    private static boolean isWord(int word) {
        return word >= 0 && word < WORD_COUNT;
    }

    private static boolean areKinds(int a, int b, int out) {
        boolean inBounds = a >= UNIT && a <= ANY && b >= UNIT && b <= ANY && out >= UNIT && out <= ANY;
        return inBounds && (a != UNIT || b == UNIT);
    }

    private static int column(int cls, int m, int which) {
        int[] table = cls == MAKER ? MAKER_MEMBERS : cls == SHELVES ? SHELF_MEMBERS : CELL_MEMBERS;
        int at = m * COLUMNS + which;
        return at >= 0 && at < table.length ? table[at] : UNIT;
    }

    /** Whether a word may tell a kind for what comes of a member with another (it is cast then) or the same. */
    private static boolean mayCome(int ofMember, int told) {
        if (told == ofMember) {
            return true;
        }
        if (ofMember == ANY) {
            return told >= CELL;
        }
        return ofMember == CELL && told == TWICE;
    }

    private static boolean marksFit(int marks, boolean intsGoIn, boolean objectComes, boolean changes) {
        if ((marks & MAY) != 0 && !objectComes) {
            return false;
        }
        if ((marks & COPY) != 0 && !intsGoIn) {
            return false;
        }
        return (marks & PURE) == 0 || !changes;
    }

    private Word wordAt(int word) {
        return isWord(word) ? words[word] : null;
    }

    private Word declaredWord(int word) {
        Word w = wordAt(word);
        return w != null && w.declared ? w : null;
    }

    private Slot lookedAt(int told, int place) {
        return told == UNIT ? unseen : slotAt(place);
    }

    private static void takeIn(Slot in, Slot from, Word w) {
        in.copyFrom(from);
        if (w.has(COPY) && from.thing instanceof Ints ints) {
            in.holdThing(ints.twin());
        }
    }

    private void start(int cls) {
        if (isClass(cls) && startedAs[cls] == 0) {
            startedCount++;
            startedAs[cls] = startedCount;
        }
    }

    private void perform(Word w, Thing host) {
        if (w.cls == TWICES) {
            start(CELLS);
        }
        start(w.cls);
        w.calls++;
        callCount++;
        answer.begin();
        if (w.cls == MAKER) {
            maker.run(w.m, firstIn, answer);
        } else if (host instanceof Cell on) {
            on.run(w.m, firstIn, answer);
        } else if (host instanceof Shelf on) {
            on.run(w.m, firstIn, secondIn.thing, answer);
        } else {
            answer.fail(THROWN_NOTHING);
        }
    }

    /** What came is cast as the word tells and goes into the target, unless something was thrown. */
    private int settle(Word w, Slot target) {
        if (answer.thrown == 0 && w.out >= CELL) {
            answer.cast(w.out, w.has(MAY));
        }
        if (answer.thrown != 0) {
            w.threw++;
            thrownCount++;
            latestThrown = answer.thrown;
            return THROWN_BASE - answer.thrown;
        }
        if (w.out == UNIT) {
            return UNIT;
        }
        target.copyFrom(answer);
        return target.kind;
    }

    /** What a place holds: nothing (kind UNIT), a number (of a REAL the bits), or a thing of the host. */
    private static class Slot {
        int kind;
        long number;
        Thing thing;

        void hold(int newKind, long newNumber, Thing newThing) {
            kind = newKind;
            number = newNumber;
            thing = newThing;
        }

        void holdThing(Thing newThing) {
            kind = newThing == null ? UNIT : newThing.sort;
            number = 0L;
            thing = newThing;
        }

        void copyFrom(Slot other) {
            hold(other.kind, other.number, other.thing);
        }

        boolean holdsNumber() {
            return kind >= INT && kind <= REAL;
        }

        int asInt() {
            return (int) number;
        }

        boolean isLike(Slot other) {
            return kind == other.kind && number == other.number && thing == other.thing;
        }

        /** Whether this may go where a kind is told; nothing may go wherever an object may. */
        boolean fits(int told) {
            if (told < CELL) {
                return kind == told;
            }
            return kind == UNIT || (thing != null && thing.isOf(told));
        }
    }

    /** What comes of a member, or the kind of what it threw. */
    private static final class Answer extends Slot {
        int thrown;

        void begin() {
            thrown = 0;
            holdThing(null);
        }

        void giveInt(int v) {
            hold(INT, v, null);
        }

        void fail(int what) {
            thrown = what;
        }

        void cast(int told, boolean mayBeNothing) {
            if (thing == null) {
                if (!mayBeNothing) {
                    fail(THROWN_NOTHING);
                }
            } else if (!thing.isOf(told)) {
                fail(THROWN_CAST);
            }
        }
    }

    private static final class Word {
        boolean declared;
        int cls;
        int m;
        int first;
        int second;
        int out;
        int marks;
        int calls;
        int threw;

        void become(int newCls, int newM, int newFirst, int newSecond, int newOut, int newMarks) {
            declared = true;
            cls = newCls;
            m = newM;
            first = newFirst;
            second = newSecond;
            out = newOut;
            marks = newMarks;
            calls = 0;
            threw = 0;
        }

        boolean has(int mark) {
            return (marks & mark) != 0;
        }

        /** The kind that it is called on: the classes of objects stand in the order of their kinds. */
        int hostKind() {
            return cls == MAKER ? UNIT : CELL + cls;
        }
    }

    /** An object of the host; its sort is the narrowest kind that it is of. */
    private abstract static class Thing {
        final int sort;

        Thing(int sort) {
            this.sort = sort;
        }

        boolean isOf(int told) {
            return told == ANY || told == sort || (told == CELL && sort == TWICE);
        }
    }

    private static class Cell extends Thing {
        int v;
        Thing kept;

        Cell(int sort, int v) {
            super(sort);
            this.v = v;
        }

        int get() {
            return v;
        }

        void run(int m, Slot in, Answer out) {
            switch (m) {
                case 0: out.giveInt(get()); break;
                case 1: v = in.asInt(); break;
                case 2: v += in.asInt(); out.giveInt(get()); break;
                case 3: divide(in.asInt(), out); break;
                case 4: out.hold(LONG, get() * WIDENER, null); break;
                case 5: out.hold(REAL, bitsOf(get() / 2.0), null); break;
                case 6: out.giveInt(in.thing == this ? 1 : 0); break;
                case 7: putInto(in.thing, out); break;
                case 8: kept = in.thing; break;
                case 9: out.holdThing(kept); break;
                default: out.holdThing(this); break;
            }
        }

        private void divide(int by, Answer out) {
            if (by == 0) {
                out.fail(THROWN_BY_ZERO);
            } else {
                out.giveInt(get() / by);
            }
        }

        private void putInto(Thing row, Answer out) {
            if (!(row instanceof Ints ints)) {
                out.fail(THROWN_NOTHING);
            } else if (!ints.has(v)) {
                out.fail(THROWN_INDEX);
            } else {
                ints.write(v, get());
                out.giveInt(v);
            }
        }
    }

    private static final class Twice extends Cell {
        Twice(int v) {
            super(TWICE, v);
        }

        int get() {
            return 2 * v;
        }
    }

    private static final class Shelf extends Thing {
        private final Cell[] cells;
        private final boolean twicesOnly;

        Shelf(Cell[] cells, boolean twicesOnly) {
            super(SHELF);
            this.cells = cells;
            this.twicesOnly = twicesOnly;
        }

        void run(int m, Slot in, Thing second, Answer out) {
            switch (m) {
                case 0: store(in.asInt(), second, out); break;
                case 1: fetch(in.asInt(), out); break;
                case 2: out.giveInt(cells.length); break;
                case 3: sum(out); break;
                default: findFirst(in.thing, out); break;
            }
        }

        private boolean has(int i) {
            return i >= 0 && i < cells.length;
        }

        /** Nothing may be stored in either kind of shelf, as in the host's arrays. */
        private void store(int i, Thing thing, Answer out) {
            if (!has(i)) {
                out.fail(THROWN_INDEX);
            } else if (twicesOnly && thing != null && !thing.isOf(TWICE)) {
                out.fail(THROWN_STORE);
            } else {
                cells[i] = thing instanceof Cell stored ? stored : null;
            }
        }

        private void fetch(int i, Answer out) {
            if (has(i)) {
                out.holdThing(cells[i]);
            } else {
                out.fail(THROWN_INDEX);
            }
        }

        private void sum(Answer out) {
            int total = 0;
            for (int i = 0; i < cells.length; i++) {
                Cell looked = cells[i];
                if (looked == null) {
                    out.fail(THROWN_NOTHING);
                    return;
                }
                total += looked.get();
            }
            out.giveInt(total);
        }

        /** The row is read ahead of the shelf, so its faults come first, of an empty shelf too. */
        private void findFirst(Thing row, Answer out) {
            if (!(row instanceof Ints ints)) {
                out.fail(THROWN_NOTHING);
                return;
            }
            if (!ints.has(0)) {
                out.fail(THROWN_INDEX);
                return;
            }
            int wanted = ints.read(0);
            for (int i = 0; i < cells.length; i++) {
                Cell looked = cells[i];
                if (looked == null) {
                    out.fail(THROWN_NOTHING);
                    return;
                }
                if (looked.v == wanted) {
                    out.giveInt(i);
                    return;
                }
            }
            out.giveInt(-1);
        }
    }

    private static final class Ints extends Thing {
        private final int[] cells;

        Ints(int[] cells) {
            super(INTS);
            this.cells = cells;
        }

        boolean has(int i) {
            return i >= 0 && i < cells.length;
        }

        int read(int i) {
            return has(i) ? cells[i] : 0;
        }

        void write(int i, int v) {
            if (has(i)) {
                cells[i] = v;
            }
        }

        Ints twin() {
            return new Ints(cells.clone());
        }
    }

    /** The class of the host that makes the others. */
    private static final class Maker {
        private int made;

        void run(int m, Slot in, Answer out) {
            switch (m) {
                case 0: giveNew(new Cell(CELL, in.asInt()), out); break;
                case 1: giveNew(new Twice(in.asInt()), out); break;
                case 2: makeShelf(in.asInt(), false, out); break;
                case 3: makeShelf(in.asInt(), true, out); break;
                case 4: makeInts(in.asInt(), out); break;
                case 5: out.giveInt(made); break;
                default: asTwice(in.thing, out); break;
            }
        }

        private void giveNew(Thing thing, Answer out) {
            made++;
            out.holdThing(thing);
        }

        private void makeShelf(int length, boolean twicesOnly, Answer out) {
            if (length < 0) {
                out.fail(THROWN_LENGTH);
            } else {
                giveNew(new Shelf(new Cell[Math.min(length, LONGEST)], twicesOnly), out);
            }
        }

        private void makeInts(int length, Answer out) {
            if (length < 0) {
                out.fail(THROWN_LENGTH);
            } else {
                giveNew(new Ints(new int[Math.min(length, LONGEST)]), out);
            }
        }

        private void asTwice(Thing thing, Answer out) {
            if (thing == null || thing.isOf(TWICE)) {
                out.holdThing(thing);
            } else {
                out.fail(THROWN_CAST);
            }
        }
    }
}
