/**
 * All that can be told of a bridge, a line for each thing: first what its calls tell, then what its things hold,
 * for which words are called. A bridge is of no use behind this. Places 8 and 9 must hold no things.
 */
final class Readout {
    private static final int NUMBER = 8;
    private static final int CAME = 9;

    private final JavaBridge x;
    private final StringBuilder text = new StringBuilder();

    private Readout(JavaBridge x) {
        this.x = x;
    }

    static String of(JavaBridge x) {
        Readout readout = new Readout(x);
        readout.line("latest", x.latest());
        readout.tell();
        readout.open();
        return readout.text.toString();
    }

    /** For a call that throws, and that may change nothing but what was thrown latest. */
    static String withoutLatest(JavaBridge x) {
        Readout readout = new Readout(x);
        readout.tell();
        readout.open();
        return readout.text.toString();
    }

    private void line(String what, long is) {
        text.append(what).append(" ").append(is).append("\n");
    }

    private void tell() {
        for (int cls = 0; cls < 4; cls++) {
            line("started " + cls, x.started(cls));
        }
        line("share", Checks.share(x));
        for (int word = 0; word < 10; word++) {
            for (int what = 0; what < 6; what++) {
                line("word " + word + " " + what, x.word(word, what));
            }
        }
        for (int place = 0; place < 10; place++) {
            line("kind of place " + place, x.kind(place));
            line("value of place " + place, x.value(place));
            for (int other = 0; other < place; other++) {
                line("same " + place + " " + other, x.same(place, other));
            }
        }
    }

    private void open() {
        x.declare(0, 3, 5, 0, 0, 1, 0);
        x.declare(1, 0, 0, 0, 0, 1, 0);
        x.declare(2, 0, 9, 0, 0, 8, 1);
        x.declare(3, 2, 2, 0, 0, 1, 0);
        x.declare(4, 2, 1, 1, 0, 4, 1);
        x.call(0, 0, 0, 0, CAME);
        line("made", x.value(CAME));
        for (int place = 0; place < NUMBER; place++) {
            switch (x.kind(place)) {
                case 4:
                case 5: openCell(place); break;
                case 6: openShelf(place); break;
                case 7: openInts(place); break;
                default: break;
            }
        }
    }

    private void openCell(int place) {
        x.call(1, place, 0, 0, CAME);
        line("get of place " + place, x.value(CAME));
        x.call(2, place, 0, 0, CAME);
        line("kept of place " + place, whatCame());
    }

    private void openShelf(int place) {
        x.call(3, place, 0, 0, CAME);
        long size = x.value(CAME);
        line("size of place " + place, size);
        for (int i = 0; i < size; i++) {
            x.number(NUMBER, 1, i);
            x.call(4, place, NUMBER, 0, CAME);
            line("cell " + i + " of place " + place, whatCame());
        }
    }

    private void openInts(int place) {
        long cell = 0;
        for (int i = 0; i < 17 && cell != Long.MIN_VALUE; i++) {
            cell = x.cell(place, i);
            line("int " + i + " of place " + place, cell);
        }
    }

    /** The place that holds the thing that came, or one below all places less its kind. */
    private int whatCame() {
        for (int place = 0; place < NUMBER; place++) {
            if (x.same(place, CAME) == 1) {
                return place;
            }
        }
        return -1 - x.kind(CAME);
    }
}
