/**
 * Promises 9 to 17 and the sentences of 'Terms' on WORDS, a CALL, and CLASSES that START: at each bound, and within it.
 * What lies outside is refused, and stands in RefusalsTest. A method's comment is the document's sentence.
 */
public final class WordBoundsTest {
    private static final int MIN = Integer.MIN_VALUE;
    private static final int MAX = Integer.MAX_VALUE;

    public static void main(String[] args) {
        membersAndMember();
        declareWords();
        declareKindsAtBounds();
        declareWhatComes();
        declareMarksAtBounds();
        declarePure();
        declareInPlaceOfWhatItWas();
        wordTells();
        wordCounts();
        callPlacesAtBounds();
        callNotLookedAt();
        callOnOneOfTheClass();
        callKindsOfNumbers();
        callKindsOfObjects();
        callOverItsOwnPlaces();
        callUnitStays();
        callNothingThatMay();
        callNothingThatMayNot();
        callCast();
        callCopies();
        callCopiesThrows();
        callThrownStays();
        rowBounds();
        rowLeavesOut();
        rowCatches();
        rowLooksAnew();
        latestOfEach();
        startedInEveryOrder();
        startedBehindRefusals();
        startedByThrows();
        shareCut();
        shareOfAll();
        allCallsOfOne();
        Checks.finish("WordBoundsTest");
    }

    /** 9: How many MEMBERS a CLASS has (of 1: 11). 10: The KIND of MEMBER m: 0, 1 of what goes in, 2 of what comes. */
    private static void membersAndMember() {
        JavaBridge x = new JavaBridge();
        int[] counts = {10, 11, 5, 7};
        int[][] lasts = {{0, 0, 8}, {0, 0, 5}, {7, 0, 1}, {8, 0, 5}};
        int[][] firsts = {{0, 0, 1}, {0, 0, 1}, {1, 4, 0}, {1, 0, 4}};
        for (int cls = 0; cls < 4; cls++) {
            Checks.due("9: members(" + cls + ")", x.members(cls), counts[cls]);
            for (int what = 0; what < 3; what++) {
                Checks.due("10: the first of " + cls, x.member(cls, 0, what), firsts[cls][what]);
                Checks.due("10: the last of " + cls, x.member(cls, counts[cls] - 1, what), lasts[cls][what]);
            }
        }
        for (int m = 0; m < 10; m++) {
            for (int what = 0; what < 3; what++) {
                Checks.due("10: of 1 as of 0, member " + m, x.member(1, m, what), x.member(0, m, what));
            }
        }
    }

    /** WORDS 0 .. 9 are DECLARED. */
    private static void declareWords() {
        JavaBridge x = new JavaBridge();
        for (int word = 0; word < 10; word++) {
            Checks.due("12: word " + word + " is not declared", x.word(word, 1), -1);
            Checks.due("11: declare " + word, x.declare(word, 0, word, x.member(0, word, 0), 0, x.member(0, word, 2), 0), 1);
            Checks.due("12: word " + word, x.word(word, 1), word);
        }
        for (int word = 0; word < 10; word++) {
            Checks.due("12: each is its own, word " + word, x.word(word, 1), word);
        }
    }

    /** 11: -2: KINDS 0 to 8 (in: no UNIT ahead of another): what lies within is held against the MEMBER. */
    private static void declareKindsAtBounds() {
        JavaBridge x = new JavaBridge();
        Checks.due("11: 8 in is a KIND", x.declare(0, 0, 0, 8, 0, 1, 0), -3);
        Checks.due("11: 8 second in is a KIND", x.declare(0, 0, 0, 8, 8, 1, 0), -3);
        Checks.due("11: 8 out is a KIND", x.declare(0, 0, 0, 0, 0, 8, 0), -3);
        Checks.due("11: 0 out is a KIND", x.declare(0, 0, 0, 0, 0, 0, 0), -3);
        Checks.due("11: 0 in is a KIND", x.declare(0, 0, 1, 0, 0, 0, 0), -3);
        Checks.due("11: 0 second in is a KIND", x.declare(0, 2, 0, 1, 0, 0, 0), -3);
        Checks.due("11: UNIT ahead of INT", x.declare(0, 0, 1, 0, 1, 0, 0), -2);
        Checks.due("11: UNIT ahead of UNIT", x.declare(0, 0, 0, 0, 0, 1, 0), 1);
        Checks.due("11: UNIT behind INT", x.declare(0, 0, 1, 1, 0, 0, 0), 1);
        Checks.due("11: 8 in, as the MEMBER", x.declare(0, 0, 6, 8, 0, 1, 0), 1);
        Checks.due("11: a narrower KIND in", x.declare(0, 0, 6, 4, 0, 1, 0), -3);
        Checks.due("11: a narrower KIND second in", x.declare(0, 2, 0, 1, 5, 0, 0), -3);
        Checks.due("11: a wider KIND second in", x.declare(0, 2, 0, 1, 8, 0, 0), -3);
        Checks.due("11: a wider KIND in", x.declare(0, 0, 7, 8, 0, 1, 0), -3);
    }

    /** what comes out: the same, or .. (of ANY 4 to 7; of CELL 5). */
    private static void declareWhatComes() {
        JavaBridge x = new JavaBridge();
        for (int out = 0; out <= 8; out++) {
            Checks.due("11: of ANY " + out, x.declare(0, 0, 9, 0, 0, out, 0), out >= 4 ? 1 : -3);
            Checks.due("11: of ANY of a TWICE " + out, x.declare(0, 1, 9, 0, 0, out, 0), out >= 4 ? 1 : -3);
            Checks.due("11: of CELL " + out, x.declare(0, 2, 1, 1, 0, out, 0), out == 4 || out == 5 ? 1 : -3);
            Checks.due("11: of a new CELL " + out, x.declare(0, 3, 0, 1, 0, out, 0), out == 4 || out == 5 ? 1 : -3);
            Checks.due("11: of TWICE " + out, x.declare(0, 3, 1, 1, 0, out, 0), out == 5 ? 1 : -3);
            Checks.due("11: of SHELF " + out, x.declare(0, 3, 2, 1, 0, out, 0), out == 6 ? 1 : -3);
            Checks.due("11: of INTS " + out, x.declare(0, 3, 4, 1, 0, out, 0), out == 7 ? 1 : -3);
            Checks.due("11: of UNIT " + out, x.declare(0, 0, 1, 1, 0, out, 0), out == 0 ? 1 : -3);
            Checks.due("11: of LONG " + out, x.declare(0, 0, 4, 0, 0, out, 0), out == 2 ? 1 : -3);
            Checks.due("11: of REAL " + out, x.declare(0, 0, 5, 0, 0, out, 0), out == 3 ? 1 : -3);
        }
    }

    /** 11: MARKS 0 to 7 .. 2 told where no INTS go in, 1 where no OBJECT comes, 4 of a MEMBER that changes something. */
    private static void declareMarksAtBounds() {
        JavaBridge x = new JavaBridge();
        int[] ofGet = {1, -3, -3, -3, 1, -3, -3, -3};
        int[] ofPut = {1, -3, 1, -3, -3, -3, -3, -3};
        int[] ofKept = {1, 1, -3, -3, 1, 1, -3, -3};
        int[] ofFirst = {1, -3, 1, -3, 1, -3, 1, -3};
        int[] ofInts = {1, 1, -3, -3, -3, -3, -3, -3};
        for (int marks = 0; marks <= 7; marks++) {
            Checks.due("11: get, MARKS " + marks, x.declare(0, 0, 0, 0, 0, 1, marks), ofGet[marks]);
            Checks.due("11: put (INTS), MARKS " + marks, x.declare(0, 1, 7, 7, 0, 1, marks), ofPut[marks]);
            Checks.due("11: kept, MARKS " + marks, x.declare(0, 0, 9, 0, 0, 8, marks), ofKept[marks]);
            Checks.due("11: first, MARKS " + marks, x.declare(0, 2, 4, 7, 0, 1, marks), ofFirst[marks]);
            Checks.due("11: ints, MARKS " + marks, x.declare(0, 3, 4, 1, 0, 7, marks), ofInts[marks]);
        }
        Checks.due("11: MARKS just below", x.declare(0, 0, 9, 0, 0, 8, -1), -2);
        Checks.due("11: MARKS just above", x.declare(0, 0, 9, 0, 0, 8, 8), -2);
    }

    /** 4 of a MEMBER that changes something (1, 2, 7, 8 of CLASSES 0, 1; 0 of 2; 0 to 4 of 3): of each other one it may be. */
    private static void declarePure() {
        String[] changers = {"1278", "1278", "0", "01234"};
        JavaBridge x = new JavaBridge();
        for (int cls = 0; cls < 4; cls++) {
            for (int m = 0; m < x.members(cls); m++) {
                boolean changes = changers[cls].contains(String.valueOf(m));
                int got = x.declare(0, cls, m, x.member(cls, m, 0), x.member(cls, m, 1), x.member(cls, m, 2), 4);
                Checks.due("11: PURE of member " + m + " of " + cls, got, changes ? -3 : 1);
            }
        }
    }

    /** 11: A WORD is DECLARED, in place of what it was. */
    private static void declareInPlaceOfWhatItWas() {
        JavaBridge x = Scene.busy();
        Checks.due("12: called", x.word(Scene.STORE, 4), 3);
        Checks.due("12: threw", x.word(Scene.STORE, 5), 1);
        Checks.due("11: declare as it was", x.declare(Scene.STORE, 2, 0, 1, 4, 0, 0), 1);
        Checks.due("12: not called", x.word(Scene.STORE, 4), 0);
        Checks.due("12: did not throw", x.word(Scene.STORE, 5), 0);
        Checks.due("12: another's stays", x.word(Scene.KEEP, 4), 2);
        Checks.due("11: declare another", x.declare(Scene.STORE, 0, 9, 0, 0, 8, 5), 1);
        int[] told = {0, 9, 8, 5, 0, 0};
        for (int what = 0; what < 6; what++) {
            Checks.due("12: word(0, " + what + ")", x.word(Scene.STORE, what), told[what]);
        }
        Checks.due("13: it is called as declared last", x.call(Scene.STORE, Scene.CELL, 99, 99, 0), 7);
        Checks.due("15: latest stays", x.latest(), 4);
    }

    /** 12: Of a WORD: 0 CLASS, 1 MEMBER, 2 KIND of what comes, 3 MARKS, 4 how often it was called, 5 how often it THREW. */
    private static void wordTells() {
        JavaBridge x = new JavaBridge();
        x.declare(0, 3, 6, 8, 0, 5, 5);
        x.declare(9, 2, 4, 7, 0, 1, 6);
        int[] first = {3, 6, 5, 5, 0, 0};
        int[] last = {2, 4, 1, 6, 0, 0};
        for (int what = 0; what < 6; what++) {
            Checks.due("12: word(0, " + what + ")", x.word(0, what), first[what]);
            Checks.due("12: word(9, " + what + ")", x.word(9, what), last[what]);
        }
        x.declare(0, 0, 9, 0, 0, 6, 0);
        Checks.due("12: the KIND told, not that of the MEMBER", x.word(0, 2), 6);
    }

    /** 12: 4 how often it was called, 5 how often it THREW: a call that is refused is none; one that throws is one. */
    private static void wordCounts() {
        JavaBridge x = Scene.quiet();
        for (int times = 1; times <= 3; times++) {
            Checks.due("13: comes back", x.call(Scene.ADD, Scene.CELL, Scene.INT, 0, Scene.REAL), 1);
            Checks.due("13: throws", x.call(Scene.ADD, Scene.EMPTY, Scene.INT, 0, Scene.REAL), -11);
            Checks.due("13: refused", x.call(Scene.ADD, Scene.INT, Scene.INT, 0, Scene.REAL), -3);
            Checks.due("13: refused", x.call(Scene.ADD, Scene.CELL, 10, 0, Scene.REAL), -1);
            Checks.due("12: called", x.word(Scene.ADD, 4), 2 * times);
            Checks.due("12: threw", x.word(Scene.ADD, 5), times);
        }
        Checks.due("14: by a row too", x.row(Scene.ADD, 1, Scene.CELL, Scene.INT, 0, Scene.REAL), 1);
        Checks.due("12: called", x.word(Scene.ADD, 4), 7);
        Checks.due("12: threw", x.word(Scene.ADD, 5), 3);
    }

    /** 13: -1: word, places that are looked at, to: the first and the last place and word. */
    private static void callPlacesAtBounds() {
        int[] ends = {0, 9};
        for (int word : ends) {
            for (int on : ends) {
                JavaBridge x = new JavaBridge();
                int other = 9 - on;
                Bench.make(x, Bench.CELL, 4, 5);
                Bench.make(x, Bench.SHELF, 1, on);
                x.number(other, 1, 0);
                x.declare(word, 2, 0, 1, 4, 0, 0);
                Checks.due("13: on " + on + ", a " + other, x.call(word, on, other, 5, other), 0);
                x.declare(word, 2, 1, 1, 0, 4, 0);
                Checks.due("13: to " + other, x.call(word, on, other, 99, other), 4);
                Checks.due("13: it is that", x.same(other, 5), 1);
                x.number(5, 1, 0);
                x.declare(word, 2, 0, 1, 4, 0, 0);
                Checks.due("13: b " + other, x.call(word, on, 5, other, 5), 0);
            }
        }
    }

    /** (not looked at for CLASS 3) .. (not looked at where UNIT is told). */
    private static void callNotLookedAt() {
        JavaBridge x = Scene.quiet();
        x.declare(0, 3, 5, 0, 0, 1, 0);
        x.declare(1, 0, 0, 0, 0, 1, 0);
        for (int p : new int[] {MIN, -1, Scene.LONG, Scene.EMPTY, Scene.CELL, 10, MAX}) {
            Checks.due("13: on " + p + " of CLASS 3", x.call(Scene.MAKE_INTS, p, Scene.INT, p, Scene.REAL), 7);
            Checks.due("13: all three of made ()", x.call(0, p, p, p, Scene.REAL), 1);
            Checks.due("13: a, b of get ()", x.call(1, Scene.CELL, p, p, Scene.REAL), 1);
            Checks.due("13: b of add (INT)", x.call(Scene.ADD, Scene.TWICE, Scene.INT, p, Scene.REAL), 1);
        }
        Checks.due("15: nothing was thrown", x.latest(), 0);
    }

    /** the OBJECT it is called on of the CLASS (a TWICE is of CLASS 0, too), or NOTHING: THROWS 1. */
    private static void callOnOneOfTheClass() {
        int[][] dues = {
            {-3, 1, 1, -3, -3, -3, -11, 1, -3, -3},
            {-3, -3, 1, -3, -3, -3, -11, 1, -3, -3},
            {-3, -3, -3, 1, 1, -3, -11, -3, -3, -3},
        };
        int[] members = {0, 0, 2};
        for (int cls = 0; cls < 3; cls++) {
            for (int on = 0; on < 10; on++) {
                JavaBridge x = Scene.quiet();
                x.declare(0, cls, members[cls], 0, 0, 1, 0);
                Checks.due("13: CLASS " + cls + " on place " + on, x.call(0, on, 0, 0, Scene.REAL), dues[cls][on]);
                Checks.due("13: the place", x.kind(Scene.REAL), dues[cls][on] == 1 ? 1 : 3);
            }
        }
    }

    /** these must be of the KINDS told (INT, LONG, REAL as such ..): no number stands for one of another KIND. */
    private static void callKindsOfNumbers() {
        JavaBridge x = Scene.quiet();
        for (int place = 0; place < 10; place++) {
            int due = place == Scene.INT ? 1 : -3;
            Checks.due("13: as an INT place " + place, x.call(Scene.ADD, Scene.CELL, place, 0, Scene.REAL), due);
            x.number(Scene.REAL, 3, 6);
        }
        x.number(Scene.LONG, 2, 1);
        Checks.due("13: a LONG that an INT could be", x.call(Scene.ADD, Scene.CELL, Scene.LONG, 0, Scene.REAL), -3);
    }

    /** (.. OBJECTS, or NOTHING). */
    private static void callKindsOfObjects() {
        int[] asAny = {-3, 0, 0, 0, 0, 0, 0, 0, -3, -3};
        int[] asCell = {-3, 0, 0, -3, -3, -3, 0, 0, -3, -3};
        int[] asInts = {-3, -3, -3, -3, -3, 1, -11, -3, -3, -3};
        for (int place = 0; place < 10; place++) {
            JavaBridge x = Scene.quiet();
            x.declare(Scene.NO_WORD, 0, 7, 7, 0, 1, 0);
            Checks.due("13: as ANY place " + place, x.call(Scene.KEEP, Scene.CELL, place, 0, Scene.REAL), asAny[place]);
            Checks.due("13: as a CELL place " + place, x.call(Scene.STORE, Scene.SHELF, Scene.INT, place, Scene.REAL), asCell[place]);
            Checks.due("13: as INTS place " + place, x.call(Scene.NO_WORD, Scene.CELL, place, 0, Scene.REAL), asInts[place]);
        }
    }

    /** 13: what comes goes into a place: also into one that it is called on, or that went in. */
    private static void callOverItsOwnPlaces() {
        JavaBridge x = Scene.quiet();
        Checks.due("13: over what went in", x.call(Scene.ADD, Scene.CELL, Scene.INT, 0, Scene.INT), 1);
        Checks.due("13: 2 and 1", x.value(Scene.INT), 3);
        Checks.due("13: over what it is called on", x.call(Scene.ADD, Scene.CELL, Scene.INT, 0, Scene.CELL), 1);
        Checks.due("13: 3 and 3", x.value(Scene.CELL), 6);
        Checks.due("13: over all three", x.call(Scene.SELF, Scene.TWICE, Scene.TWICE, Scene.TWICE, Scene.TWICE), 5);
        Checks.due("13: it is that", x.same(Scene.TWICE, Scene.SAME_TWICE), 1);
        Checks.due("13: a new one over what went in", x.call(Scene.MAKE_INTS, 0, Scene.INT, 0, Scene.INT), 7);
        Checks.due("13: of 3 cells", x.cell(Scene.INT, 2), 0);
        Checks.due("13: of no more", x.set(Scene.INT, 3, 0), -13);
    }

    /** (UNIT: it stays). */
    private static void callUnitStays() {
        for (int to = 0; to < 10; to++) {
            JavaBridge x = Scene.busy();
            int kind = x.kind(to);
            long value = x.value(to);
            int spare = to == Scene.EMPTY ? Scene.REAL : Scene.EMPTY;
            x.move(spare, to);
            Checks.due("13: a UNIT", x.call(Scene.KEEP, Scene.CELL, Scene.INTS, 0, to), 0);
            Checks.due("13: the kind stays", x.kind(to), kind);
            Checks.due("13: the value stays", x.value(to), value);
            Checks.due("13: what it holds stays", x.same(to, spare), 1);
        }
    }

    /** nothing, where it is: NOTHING. */
    private static void callNothingThatMay() {
        for (int out = 4; out <= 8; out++) {
            for (int to = 0; to < 10; to++) {
                JavaBridge x = Scene.quiet();
                x.declare(0, 0, 9, 0, 0, out, 1);
                Checks.due("13: nothing as " + out + ", MAY", x.call(0, Scene.CELL, 0, 0, to), 0);
                Checks.due("13: NOTHING goes into the place", x.kind(to), 0);
                Checks.due("6: it is like what was there at first", x.same(to, Scene.EMPTY), 1);
                Checks.due("12: it did not throw", x.word(0, 5), 0);
                Checks.due("15: nothing was thrown", x.latest(), 0);
            }
        }
        JavaBridge x = Scene.quiet();
        x.declare(0, 2, 1, 1, 0, 4, 5);
        Checks.due("13: at, MAY", x.call(0, Scene.SHELF, Scene.INT, 0, Scene.REAL), 0);
        x.declare(0, 2, 1, 1, 0, 5, 1);
        Checks.due("13: at, cast, MAY", x.call(0, Scene.TWICE_SHELF, Scene.INT, 0, Scene.REAL), 0);
        x.declare(0, 3, 6, 8, 0, 5, 1);
        Checks.due("13: as, MAY", x.call(0, 0, Scene.EMPTY, 0, Scene.REAL), 0);
        Checks.due("13: MAY does not help on NOTHING", x.call(Scene.KEPT_INTS, Scene.EMPTY, 0, 0, Scene.REAL), -11);
    }

    /** nothing, where it is no MAY: THROWS 1. */
    private static void callNothingThatMayNot() {
        for (int out = 4; out <= 8; out++) {
            for (int marks = 0; marks <= 4; marks += 4) {
                JavaBridge x = Scene.quiet();
                x.declare(0, 0, 9, 0, 0, out, marks);
                Checks.due("13: nothing as " + out + ", no MAY", x.call(0, Scene.CELL, 0, 0, Scene.LONG), -11);
                Checks.due("13: the place stays", x.value(Scene.LONG), 5);
                Checks.due("12: it threw", x.word(0, 5), 1);
                Checks.due("15: latest", x.latest(), 1);
            }
        }
    }

    /** an OBJECT that it is not CAST to: THROWS 2. */
    private static void callCast() {
        int[] kinds = {4, 5, 6, 6, 7};
        for (int what = 0; what < 5; what++) {
            for (int out = 4; out <= 8; out++) {
                for (int marks = 0; marks <= 1; marks++) {
                    JavaBridge x = Scene.quiet();
                    x.call(Scene.KEEP, Scene.TWICE, Scene.CELL + what, 0, Scene.LONG);
                    x.declare(0, 0, 9, 0, 0, out, marks);
                    boolean is = out == 8 || out == kinds[what] || out == 4 && kinds[what] == 5;
                    Checks.due("13: " + kinds[what] + " cast to " + out, x.call(0, Scene.TWICE, 0, 0, Scene.LONG), is ? kinds[what] : -12);
                    Checks.due("13: in the place", x.kind(Scene.LONG), is ? kinds[what] : 2);
                    Checks.due("15: latest", x.latest(), is ? 0 : 2);
                }
            }
        }
        JavaBridge x = Scene.quiet();
        x.call(Scene.STORE, Scene.SHELF, Scene.INT, Scene.CELL, Scene.LONG);
        x.declare(0, 2, 1, 1, 0, 5, 1);
        Checks.due("13: at, a CELL cast to a TWICE", x.call(0, Scene.SHELF, Scene.INT, 0, Scene.LONG), -12);
        Checks.due("13: the place stays", x.value(Scene.LONG), 5);
    }

    /** 2 COPY: INTS that go in go as a twin. */
    private static void callCopies() {
        JavaBridge x = Scene.quiet();
        x.declare(Scene.NO_WORD, 0, 7, 7, 0, 1, 0);
        x.set(Scene.INTS, 2, 9);
        Checks.due("13: COPY", x.call(Scene.PUT_COPY, Scene.CELL, Scene.INTS, 0, Scene.REAL), 1);
        Checks.due("13: V comes", x.value(Scene.REAL), 2);
        Checks.due("13: the row stays", x.cell(Scene.INTS, 2), 9);
        Checks.due("13: no COPY", x.call(Scene.NO_WORD, Scene.CELL, Scene.INTS, 0, Scene.REAL), 1);
        Checks.due("13: the row is shared", x.cell(Scene.INTS, 2), 2);
        Checks.due("13: the place holds the row still", x.kind(Scene.INTS), 7);
        x.set(Scene.INTS, 0, 2);
        x.call(Scene.STORE, Scene.SHELF, Scene.INT, Scene.TWICE, Scene.EMPTY);
        x.number(Scene.INT, 1, 0);
        x.call(Scene.STORE, Scene.SHELF, Scene.INT, Scene.CELL, Scene.EMPTY);
        Checks.due("13: the twin has the row's cells", x.call(Scene.FIRST, Scene.SHELF, Scene.INTS, 0, Scene.REAL), 1);
        Checks.due("13: first", x.value(Scene.REAL), 0);
        x.set(Scene.INTS, 0, 3);
        Checks.due("13: the twin is made anew at each call", x.call(Scene.FIRST, Scene.SHELF, Scene.INTS, 0, Scene.REAL), 1);
        Checks.due("13: none, as cells of 2 and 2", x.value(Scene.REAL), -1);
        x.declare(0, 3, 5, 0, 0, 1, 0);
        x.call(0, 0, 0, 0, Scene.REAL);
        Checks.due("13: the MAKER made no twin", x.value(Scene.REAL), 5);
    }

    private static void callCopiesThrows() {
        JavaBridge x = Scene.quiet();
        Checks.due("13: COPY of no row", x.call(Scene.PUT_COPY, Scene.CELL, Scene.EMPTY, 0, Scene.REAL), -11);
        Checks.due("13: COPY on NOTHING", x.call(Scene.PUT_COPY, Scene.EMPTY, Scene.INTS, 0, Scene.REAL), -11);
        x.call(Scene.ADD, Scene.CELL, Scene.INT, 0, Scene.LONG);
        Checks.due("13: COPY, just above the last", x.call(Scene.PUT_COPY, Scene.CELL, Scene.INTS, 0, Scene.REAL), -13);
        Bench.make(x, Bench.INTS, 0, Scene.INTS);
        Checks.due("13: COPY of the empty row", x.call(Scene.FIRST, Scene.SHELF, Scene.INTS, 0, Scene.REAL), -13);
        Bench.make(x, Bench.INTS, 16, Scene.INTS);
        Bench.make(x, Bench.CELL, 15, Scene.CELL);
        Checks.due("13: COPY of the full row", x.call(Scene.PUT_COPY, Scene.CELL, Scene.INTS, 0, Scene.REAL), 1);
        Checks.due("13: the row stays", x.cell(Scene.INTS, 15), 0);
    }

    /** it answers -10 less the KIND of what was THROWN; nothing goes into the place; but what was done before it stays. */
    private static void callThrownStays() {
        JavaBridge x = new JavaBridge();
        x.declare(0, 3, 0, 1, 0, 5, 0);
        x.declare(1, 3, 5, 0, 0, 1, 0);
        x.number(0, 1, 4);
        for (int times = 1; times <= 3; times++) {
            Checks.due("13: a CELL is made, but is no TWICE", x.call(0, 0, 0, 0, 0), -12);
            Checks.due("13: nothing goes into the place", x.value(0), 4);
            x.call(1, 0, 0, 0, 2);
            Checks.due("13: it was made", x.value(2), times);
        }
        Checks.due("16: the CLASS has started", x.started(3), 1);
        Checks.due("12: called", x.word(0, 4), 3);
        Checks.due("12: threw", x.word(0, 5), 3);
    }

    /** 14: of up to n WORDS .. from a WORD on .. (WORDS 0 to 9 ..). */
    private static void rowBounds() {
        for (int word = 0; word < 10; word++) {
            for (int n = 1; n <= 10; n++) {
                JavaBridge x = new JavaBridge();
                for (int w = 0; w < 10; w++) {
                    x.declare(w, 3, 5, 0, 0, 1, 0);
                }
                int due = word + n > 10 ? 10 - word : n;
                Checks.due("14: row(" + word + ", " + n + ")", x.row(word, n, 0, 0, 0, 0), due);
                for (int w = 0; w < 10; w++) {
                    Checks.due("14: word " + w + " was called", x.word(w, 4), w >= word && w < word + n ? 1 : 0);
                }
            }
        }
    }

    /** 14: (a WORD that is not DECLARED is left out) .. one that would be refused is left out. */
    private static void rowLeavesOut() {
        JavaBridge x = Scene.quiet();
        Checks.due("14: 7 alone", x.row(Scene.NO_WORD, 1, Scene.CELL, Scene.INT, 0, Scene.REAL), 0);
        Checks.due("14: 7 and 8", x.row(Scene.NO_WORD, 2, Scene.CELL, Scene.INT, 0, Scene.REAL), 1);
        Checks.due("12: 8 was called", x.word(Scene.DIVIDE, 4), 1);
        Checks.due("14: all on a CELL with an INT", x.row(0, 10, Scene.CELL, Scene.INT, Scene.CELL, Scene.REAL), 4);
        int[] called = {0, 1, 0, 1, 0, 1, 0, -1, 2, 0};
        for (int word = 0; word < 10; word++) {
            Checks.due("12: word " + word + " was called", x.word(word, 4), called[word]);
        }
        Checks.due("16: CLASS 1 has not started", x.started(1), 0);
        Checks.due("16: CLASS 2 has not started", x.started(2), 0);
        Checks.due("15: nothing was thrown", x.latest(), 0);
    }

    /** 14: what one THROWS is caught, and the next one is called: how many came back. */
    private static void rowCatches() {
        JavaBridge x = new JavaBridge();
        x.number(1, 1, -1);
        for (int w = 0; w < 10; w++) {
            x.declare(w, 3, w == 9 ? 5 : 4, w == 9 ? 0 : 1, 0, w == 9 ? 1 : 7, 0);
        }
        Checks.due("14: all throw", x.row(0, 9, 0, 1, 1, 2), 0);
        Checks.due("15: latest", x.latest(), 6);
        Checks.due("14: all but the last", x.row(0, 10, 0, 1, 1, 2), 1);
        Checks.due("13: the last came", x.value(2), 0);
        for (int w = 0; w < 9; w++) {
            Checks.due("12: word " + w + " was called", x.word(w, 4), 2);
            Checks.due("12: word " + w + " threw", x.word(w, 5), 2);
        }
        Checks.due("17: 19 by 18", Checks.share(x), 1);
        x.declare(0, 0, 0, 0, 0, 1, 0);
        x.declare(1, 3, 4, 1, 0, 7, 0);
        Checks.due("14: the latest of a row is that of its last", x.row(0, 2, 5, 1, 1, 2), 0);
        Checks.due("15: latest", x.latest(), 6);
        Checks.due("14: one alone that throws", x.row(0, 1, 5, 1, 1, 2), 0);
        Checks.due("15: latest", x.latest(), 1);
    }

    /** 14: all on what one place holds then .. (each looks at the places anew). */
    private static void rowLooksAnew() {
        JavaBridge x = new JavaBridge();
        x.declare(0, 3, 1, 1, 0, 5, 0);
        x.declare(1, 1, 10, 0, 0, 5, 0);
        x.declare(2, 0, 0, 0, 0, 1, 0);
        x.declare(3, 0, 0, 0, 0, 1, 0);
        x.number(0, 1, 4);
        Checks.due("14: a TWICE, self, get; on an INT none", x.row(0, 4, 0, 0, 0, 0), 3);
        Checks.due("14: get", x.value(0), 8);
        Checks.due("12: 3 was refused", x.word(3, 4), 0);
        x.declare(4, 0, 9, 0, 0, 8, 1);
        x.declare(5, 0, 0, 0, 0, 1, 0);
        Bench.make(x, Bench.CELL, 1, 0);
        Checks.due("14: NOTHING came, on it the next one throws", x.row(4, 2, 0, 0, 0, 0), 1);
        Checks.due("14: NOTHING is there", x.kind(0), 0);
        Checks.due("15: latest", x.latest(), 1);
    }

    /** 15: What was THROWN latest (1 to 6); 0: nothing so far. */
    private static void latestOfEach() {
        JavaBridge x = Scene.quiet();
        Checks.due("15: 0", x.latest(), 0);
        x.call(Scene.SELF, Scene.EMPTY, 0, 0, Scene.REAL);
        Checks.due("15: 1 nothing", x.latest(), 1);
        x.call(Scene.KEEP, Scene.CELL, Scene.TWICE, 0, Scene.REAL);
        Checks.due("15: what comes back does not change it", x.latest(), 1);
        x.call(Scene.KEPT_INTS, Scene.CELL, 0, 0, Scene.REAL);
        Checks.due("15: 2 a cast", x.latest(), 2);
        x.call(Scene.KEPT_INTS, Scene.INT, 0, 0, Scene.REAL);
        Checks.due("15: a refusal does not change it", x.latest(), 2);
        x.number(Scene.INT, 1, 2);
        x.call(Scene.STORE, Scene.SHELF, Scene.INT, Scene.CELL, Scene.REAL);
        Checks.due("15: 3 an index", x.latest(), 3);
        x.number(Scene.INT, 1, 0);
        x.call(Scene.DIVIDE, Scene.CELL, Scene.INT, 0, Scene.REAL);
        Checks.due("15: 4 by 0", x.latest(), 4);
        x.call(Scene.STORE, Scene.TWICE_SHELF, Scene.INT, Scene.CELL, Scene.REAL);
        Checks.due("15: 5 a store", x.latest(), 5);
        x.number(Scene.INT, 1, -1);
        x.call(Scene.MAKE_INTS, 0, Scene.INT, 0, Scene.REAL);
        Checks.due("15: 6 a length below 0", x.latest(), 6);
    }

    /** 16: 0, or as the how-many-th; for CLASS 1: CLASS 0 first: every order in which the four are first called. */
    private static void startedInEveryOrder() {
        for (int order = 0; order < 256; order++) {
            int[] called = {order % 4, order / 4 % 4, order / 16 % 4, order / 64};
            JavaBridge x = new JavaBridge();
            int[] due = new int[4];
            int count = 0;
            for (int cls : called) {
                if (cls == 1 && due[0] == 0) {
                    due[0] = ++count;
                }
                if (due[cls] == 0) {
                    due[cls] = ++count;
                }
                int m = cls == 3 ? 5 : cls == 2 ? 2 : 0;
                x.declare(0, cls, m, 0, 0, 1, 0);
                x.call(0, 1, 0, 0, 0);
                for (int of = 0; of < 4; of++) {
                    Checks.due("16: order " + order + ", started(" + of + ")", x.started(of), due[of]);
                }
            }
        }
    }

    /** A CLASS STARTS .. (behind REFUSALS ..). */
    private static void startedBehindRefusals() {
        for (int cls = 0; cls < 4; cls++) {
            JavaBridge x = new JavaBridge();
            int m = cls == 3 ? 0 : cls == 2 ? 1 : 2;
            Checks.due("11: declare", x.declare(0, cls, m, 1, 0, x.member(cls, m, 2), 0), 1);
            Checks.due("16: declared, not started", x.started(cls), 0);
            Checks.due("13: refused, KINDS", x.call(0, 1, 1, 0, 2), -3);
            Checks.due("13: refused, a", x.call(0, 1, 10, 0, 2), -1);
            Checks.due("13: refused, to", x.call(0, 1, 1, 0, 10), -1);
            Checks.due("14: left out", x.row(0, 10, 1, 1, 0, 2), 0);
            for (int of = 0; of < 4; of++) {
                Checks.due("16: refused, not started", x.started(of), 0);
            }
            x.number(3, 1, 0);
            Checks.due("13: called", x.call(0, 1, 3, 0, 2), cls == 3 ? 4 : -11);
            Checks.due("16: started", x.started(cls), cls == 1 ? 2 : 1);
        }
    }

    /** A CLASS STARTS as a WORD of it is first called: one that throws is called, and a row calls, too. */
    private static void startedByThrows() {
        JavaBridge x = new JavaBridge();
        x.number(0, 1, -1);
        x.declare(0, 3, 4, 1, 0, 7, 0);
        Checks.due("13: throws", x.call(0, 0, 0, 0, 1), -16);
        Checks.due("16: the MAKER has started", x.started(3), 1);
        x.declare(1, 1, 0, 0, 0, 1, 0);
        Checks.due("14: a row that throws", x.row(1, 1, 1, 0, 0, 1), 0);
        Checks.due("16: CLASS 0", x.started(0), 2);
        Checks.due("16: CLASS 1", x.started(1), 3);
        x.cell(1, 0);
        x.set(1, 0, 0);
        Checks.due("16: cell() and set() start nothing", x.started(2), 0);
        Bench.make(x, Bench.SHELF, 1, 2);
        Checks.due("16: a SHELF that is made starts nothing", x.started(2), 0);
    }

    /** 17: How often WORDS were called by how often one THREW, of all, cut. */
    private static void shareCut() {
        JavaBridge x = new JavaBridge();
        x.declare(0, 3, 5, 0, 0, 1, 0);
        x.declare(1, 0, 0, 0, 0, 1, 0);
        Checks.due("17: none called", Checks.share(x), Checks.NO_SHARE);
        x.call(0, 0, 0, 0, 0);
        Checks.due("17: none did", Checks.share(x), Checks.NO_SHARE);
        // each: the word that is called, and the share then
        int[][] shares = {{1, 2}, {1, 1}, {0, 2}, {0, 2}, {0, 3}, {0, 3}, {1, 2}, {1, 2}, {1, 2}, {1, 1}};
        for (int[] step : shares) {
            x.call(step[0], 5, 0, 0, 0);
            Checks.due("17: share()", Checks.share(x), step[1]);
        }
        JavaBridge y = new JavaBridge();
        y.declare(1, 0, 0, 0, 0, 1, 0);
        y.call(1, 5, 0, 0, 0);
        Checks.due("17: 1 by 1", Checks.share(y), 1);
    }

    private static void shareOfAll() {
        JavaBridge x = new JavaBridge();
        x.declare(0, 0, 0, 0, 0, 1, 0);
        x.declare(9, 3, 5, 0, 0, 1, 0);
        x.call(0, 5, 0, 0, 0);
        x.row(9, 10, 0, 0, 0, 0);
        x.row(0, 10, 10, 0, 0, 0);
        Checks.due("17: 3 by 1", Checks.share(x), 3);
        x.declare(0, 3, 5, 0, 0, 1, 0);
        Checks.due("17: what a WORD was before counts", Checks.share(x), 3);
        x.cell(5, 0);
        x.set(5, 0, 0);
        Checks.due("17: cell() and set() are no WORDS", Checks.share(x), 3);
        x.row(0, 10, 0, 0, 0, 0);
        Checks.due("17: 5 by 1", Checks.share(x), 5);
    }

    /** An object is used for at most 512 calls: the last of them is answered as the first. */
    private static void allCallsOfOne() {
        JavaBridge x = new JavaBridge();
        x.number(0, 1, MAX);
        for (int w = 0; w < 9; w++) {
            x.declare(w, 3, 2 + w % 3, 1, 0, w % 3 == 2 ? 7 : 6, 0);
        }
        x.declare(9, 3, 5, 0, 0, 1, 0);
        for (int calls = 11; calls < 508; calls++) {
            Checks.due("14: nine made", x.row(0, 9, 0, 0, 0, 1), 9);
        }
        Checks.due("13: made", x.call(9, 0, 0, 0, 2), 1);
        Checks.due("13: how many", x.value(2), 9 * 497);
        Checks.due("12: called", x.word(8, 4), 497);
        Checks.due("7: the last one's last cell", x.cell(1, 15), 0);
    }
}
