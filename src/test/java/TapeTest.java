/** Promises 1 to 3: a new object, feed, wipe. */
public final class TapeTest {
    public static void main(String[] args) {
        newObject();
        feeding();
        fullTape();
        wiping();
        Check.end();
    }

    private static void newObject() {
        ScanTester x = new ScanTester();
        int[] told = {0, 0, 0, 0, 0, 18};
        for (int what = 0; what < 6; what++) {
            Check.same("new: told " + what, x.told(what), told[what]);
        }
        int[] chip = {0, 3, 0, 0, 0};
        for (int what = 0; what < 5; what++) {
            Check.same("new: chipHas " + what, x.chipHas(what), chip[what]);
        }
        Check.same("new: fault", x.fault(), 0);
        Check.same("new: place", x.place(), ScanTester.NONE);
        Check.same("new: answer", x.answer(0, ScanTester.NONE), 0);
        Check.same("new: fails", x.fails(ScanTester.NONE), ScanTester.NONE);
        Check.same("new: escapes", x.escapes(), 0);
        Check.same("new: wipe", x.wipe(), 0);
        Check.index("new: test(0)", () -> x.test(0));
        Check.index("new: shows(0, 0)", () -> x.shows(0, 0));
        Check.index("new: row(18, 0)", () -> x.row(18, 0));
    }

    private static void feeding() {
        ScanTester x = new ScanTester();
        Check.argument("feed(0)", () -> x.feed(0, 1));
        Check.argument("feed(9)", () -> x.feed(9, 1));
        Check.argument("feed(-1)", () -> x.feed(-1, 1));
        Check.argument("feed(least)", () -> x.feed(Integer.MIN_VALUE, 1));
        Check.argument("feed(most)", () -> x.feed(Integer.MAX_VALUE, 1));
        Check.same("what threw fed nothing", x.wipe(), 0);
        int had = 0;
        for (int n = 1; n <= 8; n++) {
            had += n;
            Check.same("feed " + n, x.feed(n, -1L), had);
        }
        x.wipe();
        // The bytes above the n lowest are no part of the tape.
        x.feed(3, 0x3F3F3F3F3F000000L | ';' << 16 | 'n' << 8 | 'i');
        x.feed(3, 0x3F3F3F3F3F000000L | ';' << 16 | 'f' << 8 | 'f');
        x.feed(4, 0x3F3F3F3F00000000L | ';' << 24 | 't' << 16 | 'u' << 8 | 'o');
        Check.same("lowest first, and no more than n", x.read(), 0);
    }

    private static void fullTape() {
        ScanTester x = new ScanTester();
        for (int k = 0; k < 112; k++) {
            x.feed(8, 0x2020202020202020L);
        }
        Check.same("a tape of 896 takes no 5", x.feed(5, 0), ScanTester.NONE);
        Check.same("a tape of 896 takes no 8", x.feed(8, 0), ScanTester.NONE);
        Check.same("a tape of 896 takes 4", x.feed(4, 0), 900);
        Check.same("a tape of 900 takes no 1", x.feed(1, 0), ScanTester.NONE);
        Check.argument("a wrong n on a full tape", () -> x.feed(0, 0));
        Check.argument("a wrong n on a full tape", () -> x.feed(9, 0));
        Check.same("read of 900 blanks", x.read(), ScanTester.NONE);
        Check.same("its place is the tape's end", x.place(), 900);
        Check.same("wipe of a full tape", x.wipe(), 900);
        Check.same("feed behind it", x.feed(1, 0), 1);
    }

    private static void wiping() {
        ScanTester x = Check.reading(Check.PLAIN);
        x.chip(3);
        x.clock(false, false, 0);
        Check.same("wipe", x.wipe(), Check.PLAIN.length());
        Check.same("wipe again", x.wipe(), 0);
        Check.same("the circuit stays", x.told(0), 3);
        Check.same("the chip stays", x.chipHas(0), 1);
        Check.same("fault stays", x.fault(), 0);
        Check.same("read of nothing", x.read(), ScanTester.NONE);
        Check.same("fault", x.fault(), 1);
        Check.feed(x, "in");
        x.wipe();
        Check.same("fault stays behind feed and wipe", x.fault(), 1);
        Check.same("place stays behind feed and wipe", x.place(), 0);
    }
}
