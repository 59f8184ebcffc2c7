/** Promises 14 to 16: chip, clock, chipHas. */
public final class ChipTest {
    private static final int NONE = ScanTester.NONE;

    /** The next state with tms 0 and tms 1, as the document tells them. */
    private static final int[][] AFTER = {
        {1, 0}, {1, 2}, {3, 9}, {4, 5}, {4, 5}, {6, 8}, {6, 7}, {4, 8},
        {1, 2}, {10, 0}, {11, 12}, {11, 12}, {13, 15}, {13, 14}, {11, 15}, {1, 2}
    };

    /** The tms that lead from RESET to each state. */
    private static final String[] WAYS = {
        "", "0", "01", "010", "0100", "0101", "01010", "010101", "01011", "011", "0110", "01100", "01101",
        "011010", "0110101", "011011"
    };

    public static void main(String[] args) {
        states();
        codes();
        idling();
        capturing();
        shifting();
        beside();
        withoutFlops();
        outputsAndStuck();
        newChip();
        wrongInputs();
        Check.end();
    }

    private static void walk(ScanTester x, String tms) {
        for (int k = 0; k < tms.length(); k++) {
            x.clock(tms.charAt(k) == '1', false, 0);
        }
    }

    /** From RESET to state 2, with a code of two bits. */
    private static void load(ScanTester x, int code) {
        walk(x, "01100");
        x.clock(false, (code & 1) == 1, 0);
        x.clock(true, code >> 1 == 1, 0);
        walk(x, "11");
    }

    private static void states() {
        for (int state = 0; state < 16; state++) {
            for (int tms = 0; tms < 2; tms++) {
                ScanTester x = new ScanTester();
                walk(x, WAYS[state]);
                Check.same("way to " + state, x.chipHas(0), state);
                x.clock(tms == 1, false, 0);
                Check.same("from " + state + " with " + tms, x.chipHas(0), AFTER[state][tms]);
            }
        }
    }

    private static void codes() {
        for (int code = 0; code < 4; code++) {
            ScanTester x = new ScanTester();
            load(x, code);
            Check.same("state", x.chipHas(0), 2);
            Check.same("code", x.chipHas(1), code);
            Check.same("shifter", x.chipHas(4), code);
            walk(x, "11");
            Check.same("in RESET before a clock", x.chipHas(1), code);
            walk(x, "0");
            Check.same("behind a clock in RESET", x.chipHas(1), 3);
        }
        ScanTester x = new ScanTester();
        walk(x, "0110");
        Check.same("shifter before 10's clock", x.chipHas(4), 0);
        walk(x, "0");
        Check.same("shifter behind it", x.chipHas(4), 1);
        Check.same("its low bit is seen", x.clock(false, true, 0), 256);
        Check.same("shifter", x.chipHas(4), 2);
        Check.same("its low bit", x.clock(false, true, 0), 0);
        Check.same("shifter", x.chipHas(4), 3);
        Check.same("its low bit", x.clock(true, false, 0), 256);
        Check.same("shifter", x.chipHas(4), 1);
        Check.same("not seen in 12", x.clock(true, true, 0), 0);
        Check.same("code not yet", x.chipHas(1), 3);
        walk(x, "0");
        Check.same("code", x.chipHas(1), 1);
    }

    private static void idling() {
        ScanTester x = Check.reading("in a;ff p,q;p<-a;q<-p;out;");
        walk(x, "0");
        x.clock(false, false, 1);
        Check.same("p becomes a", x.chipHas(2), 1);
        x.clock(false, false, 0);
        Check.same("q becomes p", x.chipHas(2), 2);
        ScanTester z = Check.reading("in a;ff p;p<-a;out;");
        load(z, 1);
        walk(z, "0110");
        Check.same("idle", z.chipHas(0), 1);
        z.clock(false, false, 1);
        Check.same("with code 1 they stay", z.chipHas(2), 0);
        for (int code : new int[] {0, 2, 3}) {
            ScanTester w = Check.reading("in a;ff p;p<-a;out;");
            load(w, code);
            walk(w, "0110");
            Check.same("idle", w.chipHas(0), 1);
            w.clock(false, false, 1);
            Check.same("with code " + code + " they go on", w.chipHas(2), 1);
        }
    }

    private static void capturing() {
        for (int code = 0; code < 4; code++) {
            ScanTester x = Check.reading("in a;ff p;p<-a;out;");
            load(x, code);
            walk(x, "0");
            x.clock(false, true, 1);
            Check.same("capture with code " + code, x.chipHas(2), code == 1 ? 1 : 0);
            Check.same("state", x.chipHas(0), 4);
        }
    }

    private static void shifting() {
        ScanTester x = Check.reading("in;ff p,q,r;out;");
        load(x, 1);
        walk(x, "00");
        int[] tdi = {1, 0, 1, 1, 0};
        int[] held = {1, 2, 5, 3, 6};
        int[] seen = {0, 0, 0, 256, 0};
        for (int k = 0; k < tdi.length; k++) {
            Check.same("tdo " + k, x.clock(false, tdi[k] == 1, 0), seen[k]);
            Check.same("held " + k, x.chipHas(2), held[k]);
        }
        Check.same("the last one", x.clock(true, false, 0), 256);
        Check.same("not seen in 5", x.clock(true, false, 0), 0);
        Check.same("beside is not in it", x.chipHas(3), 0);
    }

    private static void beside() {
        for (int code : new int[] {0, 2, 3}) {
            ScanTester x = Check.reading("in a;ff p;p<-a;out;");
            load(x, code);
            walk(x, "00");
            Check.same("beside at first", x.clock(false, true, 0), 0);
            Check.same("beside", x.chipHas(3), 1);
            Check.same("beside is seen", x.clock(false, true, 1), 256);
            Check.same("flip-flops stay", x.chipHas(2), 0);
            x.clock(true, true, 0);
            Check.same("not seen in 5", x.clock(true, false, 0), 0);
            Check.same("it stays", x.chipHas(3), 1);
            walk(x, "10");
            Check.same("in 3", x.chipHas(3), 1);
            walk(x, "0");
            Check.same("3 makes it 0", x.chipHas(3), 0);
        }
        ScanTester y = Check.reading("in;ff p;out;");
        walk(y, "010");
        walk(y, "0");
        y.clock(true, true, 0);
        walk(y, "1");
        walk(y, "1");
        Check.same("beside", y.chipHas(3), 1);
        walk(y, "10011");
        Check.same("codes do not touch it", y.chipHas(3), 1);
    }

    private static void withoutFlops() {
        ScanTester x = Check.reading("in a;ff;out a;");
        load(x, 1);
        walk(x, "00");
        Check.same("state", x.chipHas(0), 4);
        Check.same("tdo is tdi", x.clock(false, true, 0), 256);
        Check.same("tdo is tdi", x.clock(false, false, 1), 1);
        Check.same("tdo is tdi", x.clock(false, true, 1), 257);
        Check.same("nothing is held", x.chipHas(2), 0);
        Check.same("nothing is beside", x.chipHas(3), 0);
    }

    private static void outputsAndStuck() {
        ScanTester x = Check.reading("in a;ff p,q;p<-a;q<-p;out p,q,a;");
        x.chip(3);
        Check.same("p is seen as 1", x.clock(false, false, 0), 0b001);
        Check.same("p holds 0", x.chipHas(2), 0);
        Check.same("before the clock", x.clock(false, false, 0), 0b001);
        Check.same("q becomes what p is seen as", x.chipHas(2), 2);
        x.chip(2);
        walk(x, "0");
        Check.same("inputs are seen at once", x.clock(false, false, 1), 0b100);
        Check.same("p holds 1", x.chipHas(2), 1);
        Check.same("p is seen as 0", x.clock(false, false, 1), 0b100);
        Check.same("q looks at it", x.chipHas(2), 1);
        x.chip(2);
        load(x, 1);
        walk(x, "00");
        x.clock(false, true, 0);
        x.clock(false, false, 0);
        Check.same("p is shifted as it is", x.chipHas(2), 2);
        Check.same("and seen so in the end", x.clock(false, false, 0), 256 | 2);
    }

    private static void newChip() {
        ScanTester x = Check.reading("in a;ff p;p<-a;out p;");
        load(x, 2);
        walk(x, "00");
        x.clock(false, true, 1);
        x.chip(NONE);
        int[] due = {0, 3, 0, 0, 0};
        for (int what = 0; what < 5; what++) {
            Check.same("a new chip has " + what, x.chipHas(what), due[what]);
        }
        x.chip(3);
        Check.same("stuck", x.clock(false, false, 0), 1);
        x.chip(NONE);
        Check.same("good again", x.clock(false, false, 0), 0);
        x.chip(0);
        Check.index("no such f", () -> x.chip(4));
        walk(x, "0");
        x.clock(false, false, 1);
        Check.same("what threw left the chip, a is stuck at 0", x.chipHas(2), 0);
    }

    private static void wrongInputs() {
        ScanTester x = Check.reading(Check.PLAIN);
        Check.index("chip(20)", () -> x.chip(20));
        Check.index("chip(-2)", () -> x.chip(-2));
        Check.index("chip(most)", () -> x.chip(Integer.MAX_VALUE));
        Check.argument("inputs = 8", () -> x.clock(false, false, 8));
        Check.argument("inputs = -1", () -> x.clock(true, true, -1));
        Check.argument("inputs = least", () -> x.clock(true, true, Integer.MIN_VALUE));
        Check.same("no clock came", x.chipHas(0), 0);
        Check.same("the most inputs", x.clock(false, false, 7) & ~7, 0);
        Check.argument("chipHas(5)", () -> x.chipHas(5));
        Check.argument("chipHas(-1)", () -> x.chipHas(-1));
        ScanTester none = new ScanTester();
        Check.argument("no inputs", () -> none.clock(false, false, 1));
        Check.index("no nets", () -> none.chip(0));
    }
}
