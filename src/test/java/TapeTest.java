/** The tape's sentences of "Terms", and promises 1 to 3: a new object, feed, wipe. */
public final class TapeTest {
    private static final int NONE = ScanTester.NONE;

    /** A circuit cut where blanks may stand; every kind of mark, word and line is in it. */
    private static final String[] PIECES = {
        "in", "a1", ",", "b", ";", "ff", "p", ",", "q", ";", "c", "=", "nand", "(", "a1", ",", "b", ",", "p", ")", ";",
        "p", "<", "-", "c", ";", "d", "=", "not", "(", "q", ")", ";", "out", "c", ",", "d", ";"
    };

    public static void main(String[] args) {
        upTo900();
        everyByte();
        blanksBetween();
        blanksWithin();
        emptyTape();
        emptyCircuit();
        goodChip();
        lowestFirst();
        behindTheTape();
        howManyItHas();
        moreThan900();
        wrongCount();
        emptyThen();
        howManyItHad();
        Check.end();
    }

    /** An object whose tape has so many bytes, all blanks. */
    private static ScanTester filled(int length) {
        ScanTester x = new ScanTester();
        Check.feed(x, " ".repeat(length));
        return x;
    }

    private static void upTo900() {
        Check.sentence("Terms", "THE TAPE has up to 900 bytes");
        String most = "in a;ff;" + " ".repeat(900 - 14) + "out a;";
        Check.same("its length", most.length(), 900);
        Check.good(most, 1);
        Check.badAt(1, 899, most.substring(0, 899) + "?");
        Check.badAt(1, 900, most.substring(0, 899) + " ");
        ScanTester x = filled(900);
        Check.same("900 blanks and no circuit", x.read(), NONE);
        Check.same("their end", x.place(), 900);
        Check.same("the 901st", x.feed(1, 0), NONE);
    }

    private static void everyByte() {
        Check.sentence("Terms", "(0 .. 255)");
        for (int b = 0; b < 256; b++) {
            String text = "in a;ff;" + (char) b + "out a;";
            if (b <= 32) {
                Check.good(text, 1);
            } else {
                Check.badAt(1, 8, text);
            }
        }
    }

    private static void blanksBetween() {
        Check.sentence("Terms", "bytes not above 32 may stand anywhere but within words and names, and count nothing");
        for (int b = 0; b <= 32; b++) {
            StringBuilder text = new StringBuilder();
            for (String piece : PIECES) {
                text.append((char) b).append(piece);
            }
            Check.good(text.append((char) b).toString(), 6);
        }
        // One above 32 may stand nowhere.
        for (int gap = 0; gap <= PIECES.length; gap++) {
            Check.badAt(1, joined(0, gap).length(), joined(0, gap) + "!" + joined(gap, PIECES.length));
        }
        Check.good(" \t\n\r\0 in  ;\37\37ff  ;  out\1\2 ;  \40", 0);
    }

    private static String joined(int from, int to) {
        StringBuilder text = new StringBuilder();
        for (int k = from; k < to; k++) {
            text.append(PIECES[k]).append(' ');
        }
        return text.toString();
    }

    private static void blanksWithin() {
        Check.sentence("Terms", "anywhere but within words and names");
        for (char blank : new char[] {0, 9, 10, 31, 32}) {
            Check.badAt(1, 0, "i" + blank + "n a;ff;out a;");
            Check.badAt(1, 5, "in a;f" + blank + "f;out a;");
            Check.badAt(1, 10, "in a;ff;o" + blank + "ut a;");
            Check.badAt(1, 8, "in a;ff;ou" + blank + "t a;");
            Check.badAt(3, 10, "in a;ff;b=no" + blank + "t(a);out a;");
            Check.badAt(3, 10, "in a;ff;b=n" + blank + "and(a,a);out a;");
            Check.badAt(1, 5, "in a" + blank + "1;ff;out a;");
            Check.badAt(2, 13, "in a1;ff;out a" + blank + "1;");
        }
    }

    private static void emptyTape() {
        Check.sentence("Promise 1", "An empty tape");
        Check.same("wipe", new ScanTester().wipe(), 0);
        Check.same("feed", new ScanTester().feed(1, 0), 1);
        ScanTester x = new ScanTester();
        Check.same("read", x.read(), NONE);
        Check.same("fault", x.fault(), 1);
        Check.same("place", x.place(), 0);
    }

    private static void emptyCircuit() {
        Check.sentence("Promise 1", "the circuit without anything");
        ScanTester x = new ScanTester();
        int[] told = {0, 0, 0, 0, 0, 18};
        for (int what = 0; what < 6; what++) {
            Check.same("told " + what, x.told(what), told[what]);
        }
        Check.same("fault", x.fault(), 0);
        Check.same("place", x.place(), NONE);
        Check.same("answer", x.answer(0, NONE), 0);
        Check.same("fails", x.fails(NONE), NONE);
        Check.same("escapes", x.escapes(), 0);
        Check.argument("a pattern with a bit", () -> x.answer(1, NONE));
        Check.index("a stuck net", () -> x.answer(0, 0));
        Check.index("shows(0, 0)", () -> x.shows(0, 0));
        Check.index("test(0)", () -> x.test(0));
        Check.index("row(18, 0)", () -> x.row(18, 0));
        Check.index("fails(0)", () -> x.fails(0));
        Check.index("chip(0)", () -> x.chip(0));
        Check.argument("an input", () -> x.clock(false, false, 1));
    }

    private static void goodChip() {
        Check.sentence("Promise 1", "a good chip");
        ScanTester x = new ScanTester();
        int[] due = {0, 3, 0, 0, 0};
        for (int what = 0; what < 5; what++) {
            Check.same("chipHas " + what, x.chipHas(what), due[what]);
        }
        Check.same("clock", x.clock(false, true, 0), 0);
        Check.same("its state", x.chipHas(0), 1);
    }

    private static void lowestFirst() {
        Check.sentence("Promise 2", "The n lowest bytes of a long, the lowest first");
        ScanTester x = new ScanTester();
        // The bytes above the n lowest would be faults, were they on the tape.
        x.feed(3, 0x3F3F3F3F3F000000L | ';' << 16 | 'n' << 8 | 'i');
        x.feed(3, 0x3F3F3F3F3F000000L | ';' << 16 | 'f' << 8 | 'f');
        x.feed(4, 0x3F3F3F3F00000000L | ';' << 24 | 't' << 16 | 'u' << 8 | 'o');
        Check.same("in;ff;out;", x.read(), 0);
        // All eight, the highest above 127: it is 255, and not below 33.
        ScanTester y = new ScanTester();
        y.feed(8, 0xFF66663B61206E69L);
        Check.same("in a;ff and a byte 255", y.read(), NONE);
        Check.same("its fault", y.fault(), 1);
        Check.same("its place", y.place(), 7);
        for (int n = 1; n <= 8; n++) {
            ScanTester z = new ScanTester();
            Check.feed(z, "in;ff;");
            z.feed(n, 0x3F20202020202020L >>> 8 * (8 - n));
            z.read();
            Check.same("the last of " + n, z.place(), 5 + n);
        }
    }

    private static void behindTheTape() {
        Check.sentence("Promise 2", "come behind the tape");
        String text = "in a;ff;out a;";
        for (int n = 1; n <= 8; n++) {
            ScanTester x = new ScanTester();
            Check.feed(x, text.substring(0, n));
            Check.feed(x, text.substring(n));
            Check.same("cut behind " + n, x.read(), 1);
        }
        ScanTester y = new ScanTester();
        Check.feed(y, text);
        y.read();
        Check.feed(y, "?");
        y.read();
        Check.same("behind a tape that was read", y.place(), text.length());
    }

    private static void howManyItHas() {
        Check.sentence("Promise 2", "Answers how many it has");
        ScanTester x = new ScanTester();
        int had = 0;
        for (int n = 1; n <= 8; n++) {
            had += n;
            Check.same("feed " + n, x.feed(n, -1L), had);
        }
        Check.same("feed 1", x.feed(1, 0), 37);
    }

    private static void moreThan900() {
        Check.sentence("Promise 2", "NONE when there would be more than 900");
        for (int n = 1; n <= 8; n++) {
            Check.same("900 with " + n, filled(900 - n).feed(n, 0), 900);
            ScanTester x = filled(901 - n);
            Check.same("901 with " + n, x.feed(n, 0x3F3F3F3F3F3F3F3FL), NONE);
            x.read();
            Check.same("no byte of it came", x.place(), 901 - n);
            Check.same("none counts", x.wipe(), 901 - n);
        }
    }

    private static void wrongCount() {
        Check.sentence("Promise 2", "IllegalArgumentException: n is not 1 to 8.");
        int[] wrong = {0, 9, -1, 10, 16, 256, 257, Integer.MIN_VALUE, Integer.MIN_VALUE + 1, Integer.MAX_VALUE};
        ScanTester x = new ScanTester();
        ScanTester full = filled(900);
        for (int n : wrong) {
            Check.argument("feed " + n, () -> x.feed(n, 0));
            Check.argument("on a full tape, feed " + n, () -> full.feed(n, 0));
        }
        Check.same("it fed nothing", x.wipe(), 0);
        Check.same("the full tape stays", full.wipe(), 900);
    }

    private static void emptyThen() {
        Check.sentence("Promise 3", "The tape is empty then.");
        ScanTester x = filled(900);
        x.wipe();
        Check.same("wipe again", x.wipe(), 0);
        Check.same("feed", x.feed(8, 0x2020202020202020L), 8);
        x.wipe();
        Check.feed(x, "in a;ff;out a;");
        Check.same("nothing is left before", x.read(), 1);
        x.wipe();
        Check.same("read of nothing", x.read(), NONE);
        Check.same("its place", x.place(), 0);
        // The tape is not the circuit, nor the chip, nor the fault.
        ScanTester y = Check.reading(Check.PLAIN);
        y.chip(3);
        y.clock(false, false, 0);
        Check.feed(y, "?");
        y.read();
        y.wipe();
        Check.same("the circuit stays", y.told(0), 3);
        Check.same("the chip stays", y.chipHas(0), 1);
        Check.same("the fault stays", y.fault(), 1);
        Check.same("the place stays", y.place(), Check.PLAIN.length());
    }

    private static void howManyItHad() {
        Check.sentence("Promise 3", "Answers how many bytes it had.");
        for (int length : new int[] {0, 1, 8, 9, 899, 900}) {
            Check.same("wipe of " + length, filled(length).wipe(), length);
        }
        ScanTester x = Check.reading(Check.PLAIN);
        Check.same("behind a read", x.wipe(), Check.PLAIN.length());
        Check.same("behind a wipe", x.wipe(), 0);
    }
}
