/** The chip, from "Terms"; promises 14 to 16: chip, clock, chipHas. */
public final class ChipTest {
    private static final int NONE = ScanTester.NONE;
    private static final int STATE = 0;
    private static final int CODE = 1;
    private static final int HELD = 2;
    private static final int BESIDE = 3;
    private static final int SHIFTER = 4;

    /** The next state with tms 0 and tms 1, as the document tells them. */
    private static final int[][] AFTER = {
        {1, 0}, {1, 2}, {3, 9}, {4, 5}, {4, 5}, {6, 8}, {6, 7}, {4, 8},
        {1, 2}, {10, 0}, {11, 12}, {11, 12}, {13, 15}, {13, 14}, {11, 15}, {1, 2}
    };

    /** The tms that lead to each state from 2; those behind 4 go through it. */
    private static final String[] FROM_TWO = {
        "11", "00110", "", "0", "00", "001", "0010", "00101", "0011", "1", "10", "100", "101", "1010", "10101", "1011"
    };

    /** Nexts that differ from what is held: p becomes a, q becomes not q. */
    private static final String CIRCUIT = "in a;ff p,q;n=not(q);p<-a;q<-n;out q,a;";

    public static void main(String[] args) {
        atFirst();
        states();
        stateZero();
        stateOne();
        stateThree();
        stateFour();
        stateFourWithoutFlops();
        stateTen();
        stateEleven();
        stateFifteen();
        twoBits();
        otherStates();
        tdoInFour();
        tdoWithoutFlops();
        tdoInEleven();
        tdoElsewhere();
        newChip();
        noSuchStuck();
        thePinsAreSo();
        thenAClock();
        otherInputs();
        has();
        anotherWhat();
        Check.end();
    }

    static void walk(ScanTester x, String tms) {
        for (int k = 0; k < tms.length(); k++) {
            if (tms.charAt(k) != ' ') {
                x.clock(tms.charAt(k) == '1', false, 0);
            }
        }
    }

    /** From RESET to state 2, with a code of two bits. */
    static void load(ScanTester x, int code) {
        walk(x, "01100");
        x.clock(false, (code & 1) == 1, 0);
        x.clock(true, code >> 1 == 1, 0);
        walk(x, "11");
    }

    /** A chip in a state, with a code, and with 1 beside but in 4: so that what a clock changes is seen. */
    private static ScanTester standing(int state, int code) {
        ScanTester x = Check.reading(CIRCUIT);
        // p and q are shifted in with code 1: q 0, p 1; then a bit goes beside.
        load(x, 1);
        walk(x, "00");
        x.clock(false, false, 0);
        x.clock(true, true, 0);
        walk(x, "11 100");
        x.clock(false, false, 0);
        x.clock(true, false, 0);
        walk(x, "11 00");
        x.clock(true, true, 0);
        walk(x, "11 100");
        x.clock(false, (code & 1) == 1, 0);
        x.clock(true, code >> 1 == 1, 0);
        walk(x, "11");
        for (char tms : FROM_TWO[state].toCharArray()) {
            x.clock(tms == '1', true, 0);
        }
        Check.same("it stands in " + state, x.chipHas(STATE), state);
        Check.same("its code in " + state, x.chipHas(CODE), code);
        Check.same("beside in " + state, x.chipHas(BESIDE), state == 4 && code != 1 ? 0 : 1);
        return x;
    }

    /** What a clock changes, if there is anything: what the chip has then, by its name here. */
    private static void changes(ScanTester x, boolean tms, boolean tdi, int inputs, int... whatAndDue) {
        int[] due = new int[5];
        for (int what = 1; what < 5; what++) {
            due[what] = x.chipHas(what);
        }
        int state = x.chipHas(STATE);
        due[STATE] = AFTER[state][tms ? 1 : 0];
        for (int k = 0; k < whatAndDue.length; k += 2) {
            due[whatAndDue[k]] = whatAndDue[k + 1];
        }
        x.clock(tms, tdi, inputs);
        for (int what = 0; what < 5; what++) {
            Check.same("chipHas " + what + " behind a clock in " + state, x.chipHas(what), due[what]);
        }
    }

    private static void atFirst() {
        Check.sentence("Terms", "At first all is 0, the code 3.");
        int[] due = {0, 3, 0, 0, 0};
        for (ScanTester x : new ScanTester[] {new ScanTester(), Check.reading(CIRCUIT)}) {
            for (int what = 0; what < 5; what++) {
                Check.same("chipHas " + what, x.chipHas(what), due[what]);
            }
        }
    }

    private static void states() {
        Check.sentence("Terms", "Then the state, with tms 0, tms 1: 0: 1, 0. 1: 1, 2. 2: 3, 9. 3: 4, 5. 4: 4, 5. 5: 6, 8. 6: 6, 7. "
            + "7: 4, 8. 8: 1, 2. 9: 10, 0. 10: 11, 12. 11: 11, 12. 12: 13, 15. 13: 13, 14. 14: 11, 15. 15: 1, 2.");
        for (int state = 0; state < 16; state++) {
            for (int code = 0; code < 4; code++) {
                for (int tms = 0; tms < 2; tms++) {
                    ScanTester x = standing(state, code);
                    x.clock(tms == 1, tms == 0, 0);
                    Check.same("from " + state + " with " + tms, x.chipHas(STATE), AFTER[state][tms]);
                }
            }
        }
    }

    private static void stateZero() {
        Check.sentence("Terms", "0 the code becomes 3");
        for (int code = 0; code < 4; code++) {
            changes(standing(0, code), false, true, 1, CODE, 3);
            changes(standing(0, code), true, true, 1, CODE, 3);
        }
    }

    private static void stateOne() {
        Check.sentence("Terms", "1, with another code than 1: the flip-flops become their nexts");
        for (int code = 0; code < 4; code++) {
            for (int inputs = 0; inputs < 2; inputs++) {
                ScanTester x = standing(1, code);
                int q = x.chipHas(HELD) >> 1;
                int due = code == 1 ? x.chipHas(HELD) : inputs | (1 - q) << 1;
                changes(x, inputs == 1, true, inputs, HELD, due);
            }
        }
        // Clock by clock, all at once: q becomes what p was.
        ScanTester y = Check.reading("in a;ff p,q;p<-a;q<-p;out;");
        walk(y, "0");
        changes(y, false, false, 1, HELD, 1);
        changes(y, false, false, 0, HELD, 2);
        changes(y, false, false, 0, HELD, 0);
        // Without a next it keeps what it has.
        ScanTester z = Check.reading("in;ff p;out;");
        walk(z, "0");
        changes(z, false, true, 0, HELD, 0);
    }

    private static void stateThree() {
        Check.sentence("Terms", "3: with code 1 the flip-flops become their nexts, else beside becomes 0");
        for (int code = 0; code < 4; code++) {
            for (int inputs = 0; inputs < 2; inputs++) {
                ScanTester x = standing(3, code);
                Check.same("beside before", x.chipHas(BESIDE), 1);
                if (code == 1) {
                    int q = x.chipHas(HELD) >> 1;
                    changes(x, inputs == 1, true, inputs, HELD, inputs | (1 - q) << 1);
                } else {
                    changes(x, inputs == 1, true, inputs, BESIDE, 0);
                }
            }
        }
    }

    private static void stateFour() {
        Check.sentence("Terms", "4: with code 1 tdi goes to flip-flop 0, what that had to 1, and so on; else beside becomes tdi");
        ScanTester x = Check.reading("in;ff p,q,r;out;");
        load(x, 1);
        walk(x, "00");
        int[] tdi = {1, 0, 1, 1, 0, 0};
        int[] held = {1, 2, 5, 3, 6, 4};
        for (int k = 0; k < tdi.length; k++) {
            changes(x, k == 5, tdi[k] == 1, 0, HELD, held[k]);
        }
        ScanTester most = Check.reading("in;ff a,b,c,d,e,f,g,h,i,j;out;");
        load(most, 1);
        walk(most, "00");
        for (int k = 0; k < 12; k++) {
            changes(most, false, k == 0 || k == 10, 0, HELD, (1 << k | (k >= 10 ? 1 << k - 10 : 0)) & 1023);
        }
        for (int code : new int[] {0, 2, 3}) {
            ScanTester y = standing(4, code);
            changes(y, false, true, 1, BESIDE, 1);
            changes(y, false, true, 0, BESIDE, 1);
            changes(y, false, false, 0, BESIDE, 0);
            changes(y, true, true, 0, BESIDE, 1);
        }
    }

    private static void stateFourWithoutFlops() {
        Check.sentence("Terms", "with code 1 tdi goes to flip-flop 0");
        ScanTester x = Check.reading("in a;ff;out a;");
        load(x, 1);
        walk(x, "00");
        changes(x, false, true, 1, HELD, 0);
        changes(x, true, true, 1, HELD, 0);
    }

    private static void stateTen() {
        Check.sentence("Terms", "10: the shifter becomes 1");
        for (int code = 0; code < 4; code++) {
            changes(standing(10, code), false, true, 1, SHIFTER, 1);
            changes(standing(10, code), true, false, 1, SHIFTER, 1);
        }
    }

    private static void stateEleven() {
        Check.sentence("Terms", "11: the shifter goes down by a bit, tdi comes in above");
        ScanTester x = new ScanTester();
        walk(x, "01100");
        Check.same("before", x.chipHas(SHIFTER), 1);
        int[] tdi = {1, 1, 0, 0, 1, 0};
        int[] due = {2, 3, 1, 0, 2, 1};
        for (int k = 0; k < tdi.length; k++) {
            changes(x, k == 5, tdi[k] == 1, 0, SHIFTER, due[k]);
        }
    }

    private static void stateFifteen() {
        Check.sentence("Terms", "15: the code becomes the shifter");
        for (int code = 0; code < 4; code++) {
            for (int tms = 0; tms < 2; tms++) {
                ScanTester x = new ScanTester();
                walk(x, "01100");
                x.clock(false, (code & 1) == 1, 0);
                x.clock(true, code >> 1 == 1, 0);
                walk(x, "1");
                Check.same("not before", x.chipHas(CODE), 3);
                changes(x, tms == 1, true, 0, CODE, code);
            }
        }
        // Straight through, without 11: the shifter is 1.
        ScanTester y = new ScanTester();
        walk(y, "0110 11");
        changes(y, false, false, 0, CODE, 1);
        // By way of pause and again into 11.
        ScanTester z = new ScanTester();
        walk(z, "01100 10010");
        Check.same("in 11 again", z.chipHas(STATE), 11);
        changes(z, true, true, 0, SHIFTER, 2);
        walk(z, "1");
        changes(z, true, false, 0, CODE, 2);
    }

    private static void twoBits() {
        Check.sentence("Terms", "a CODE of two bits, a SHIFTER of two, a bit BESIDE");
        ScanTester x = new ScanTester();
        walk(x, "01100");
        for (int k = 0; k < 5; k++) {
            x.clock(false, true, 0);
        }
        Check.same("the shifter has no more than 3", x.chipHas(SHIFTER), 3);
        x.clock(false, false, 0);
        x.clock(true, true, 0);
        walk(x, "11");
        Check.same("the last two of seven are the code", x.chipHas(CODE), 2);
        walk(x, "00");
        for (int k = 0; k < 3; k++) {
            x.clock(false, true, 0);
            Check.same("beside has no more than 1", x.chipHas(BESIDE), 1);
        }
    }

    private static void otherStates() {
        Check.sentence("Terms", "2 select data, 3 capture data, 4 shift data, 5 exit, 6 pause, 7 exit again, 8 update data, 9 select code, "
            + "10 capture code, 11 shift code, 12 exit, 13 pause, 14 exit again, 15 update code. A CLOCK, by the state");
        // In those that the document tells nothing of, nothing but the state changes.
        for (int state : new int[] {2, 5, 6, 7, 8, 9, 12, 13, 14}) {
            for (int code = 0; code < 4; code++) {
                changes(standing(state, code), false, true, 1);
                changes(standing(state, code), true, true, 1);
            }
        }
    }

    private static void tdoInFour() {
        Check.sentence("Terms", "TDO is in 4 the last flip-flop with code 1 (tdi if there is none), else beside");
        ScanTester x = Check.reading("in;ff p,q,r;out;");
        load(x, 1);
        walk(x, "00");
        int[] tdi = {1, 0, 1, 1, 0, 1};
        int[] seen = {0, 0, 0, 256, 0, 256};
        for (int k = 0; k < tdi.length; k++) {
            Check.same("tdo " + k, x.clock(false, tdi[k] == 1, 0), seen[k]);
        }
        ScanTester one = Check.reading("in;ff p;out;");
        load(one, 1);
        walk(one, "00");
        Check.same("of one", one.clock(false, true, 0), 0);
        Check.same("of one", one.clock(false, false, 0), 256);
        Check.same("of one", one.clock(false, true, 0), 0);
        for (int code : new int[] {0, 2, 3}) {
            ScanTester y = standing(4, code);
            Check.same("beside at first", y.clock(false, true, 0) & 256, 0);
            Check.same("beside", y.clock(false, false, 0) & 256, 256);
            Check.same("beside", y.clock(false, true, 0) & 256, 0);
        }
    }

    private static void tdoWithoutFlops() {
        Check.sentence("Terms", "(tdi if there is none)");
        ScanTester x = Check.reading("in a;ff;out a;");
        load(x, 1);
        walk(x, "00");
        Check.same("1", x.clock(false, true, 0), 256);
        Check.same("0", x.clock(false, false, 1), 1);
        Check.same("1", x.clock(false, true, 1), 257);
        ScanTester y = new ScanTester();
        walk(y, "0100");
        Check.same("with another code it is beside", y.clock(false, true, 0), 0);
        Check.same("which has 1 then", y.clock(false, false, 0), 256);
    }

    private static void tdoInEleven() {
        Check.sentence("Terms", "in 11 the shifter's low bit");
        for (int code = 0; code < 4; code++) {
            ScanTester x = standing(11, code);
            int[] tdi = {0, 1, 1, 0, 0};
            int[] seen = {256, 0, 0, 256, 256};
            for (int k = 0; k < tdi.length; k++) {
                Check.same("tdo " + k, x.clock(false, tdi[k] == 1, 0) & 256, seen[k]);
            }
        }
    }

    private static void tdoElsewhere() {
        Check.sentence("Terms", "else 0");
        for (int state = 0; state < 16; state++) {
            for (int code = 0; code < 4; code++) {
                if (state != 4 && state != 11) {
                    Check.same("tdo in " + state, standing(state, code).clock(false, true, 1) & 256, 0);
                }
            }
        }
        // Where the flip-flop, beside and the shifter are all 1, from 12 on.
        ScanTester x = Check.reading("in a;ff p;p<-a;out;");
        x.clock(false, false, 0);
        x.clock(true, false, 1);
        walk(x, "00");
        x.clock(true, true, 0);
        walk(x, "11 101");
        for (char tms : "01110101111101100".toCharArray()) {
            Check.same("flip-flop, beside, shifter", x.chipHas(HELD) + x.chipHas(BESIDE) + x.chipHas(SHIFTER), 3);
            Check.same("tdo in " + x.chipHas(STATE), x.clock(tms == '1', true, 1), 0);
        }
    }

    private static void newChip() {
        Check.sentence("Promise 14", "The chip is a new one, with f stuck (NONE: a good one).");
        int[] due = {0, 3, 0, 0, 0};
        for (int f : new int[] {NONE, 0, 3, 7}) {
            ScanTester x = standing(4, 2);
            x.clock(false, true, 1);
            x.chip(f);
            for (int what = 0; what < 5; what++) {
                Check.same("a new chip has " + what, x.chipHas(what), due[what]);
            }
        }
        ScanTester y = Check.reading("in a;ff p;p<-a;out p,a;");
        y.chip(3);
        Check.same("p at 1", y.clock(false, false, 0), 1);
        y.chip(1);
        Check.same("a at 1, and p no more", y.clock(false, false, 0), 2);
        y.clock(false, false, 0);
        Check.same("p becomes a", y.chipHas(HELD), 1);
        y.chip(NONE);
        Check.same("a good one", y.clock(false, false, 0), 0);
        new ScanTester().chip(NONE);
    }

    private static void noSuchStuck() {
        Check.sentence("Promise 14", "IndexOutOfBoundsException: there is no such f.");
        ScanTester x = Check.reading(Check.PLAIN);
        x.chip(0);
        x.chip(19);
        for (int f : new int[] {20, 21, 120, -2, -3, Integer.MIN_VALUE, Integer.MAX_VALUE}) {
            Check.index("chip " + f, () -> x.chip(f));
        }
        Check.same("h is at 1 still", x.clock(false, false, 0) & 2, 2);
        Check.index("without a circuit", () -> new ScanTester().chip(0));
    }

    private static void thePinsAreSo() {
        Check.sentence("Promise 15", "The pins are so: answers the outputs' bits, and 256 if tdo is 1");
        ScanTester x = Check.reading("in a,b,c,d,e,f,g,h;ff;out a,b,c,d,e,f,g,h;");
        for (int k = 0; k < 8; k++) {
            Check.same("input " + k, x.clock(false, true, 1 << k), 1 << k);
        }
        Check.same("all", x.clock(true, false, 255), 255);
        Check.same("none", x.clock(false, false, 0), 0);
        x.clock(false, false, 0);
        x.clock(false, true, 0);
        Check.same("all, and tdo", x.clock(false, false, 255), 511);
        // The nexts are no outputs.
        ScanTester y = Check.reading("in a;ff p,q;p<-a;q<-a;out a;");
        Check.same("nexts", y.clock(false, false, 1), 1);
        Check.same("nexts without outputs", Check.reading("in a;ff p;p<-a;out;").clock(false, false, 1), 0);
        // A stuck chip's outputs are its own.
        ScanTester z = Check.reading("in a;ff p,q;p<-a;q<-p;out p,q,a;");
        z.chip(5);
        Check.same("q at 1", z.clock(false, false, 1), 0b110);
        z.chip(0);
        Check.same("a at 0", z.clock(false, false, 1), 0);
    }

    private static void thenAClock() {
        Check.sentence("Promise 15", "then a clock");
        // What is seen is what was before the clock.
        ScanTester x = Check.reading("in a;ff p;p<-a;out p;");
        Check.same("in 0", x.clock(false, false, 1), 0);
        Check.same("in 1, p before", x.clock(false, false, 1), 0);
        Check.same("p is 1 then", x.chipHas(HELD), 1);
        Check.same("in 1, p behind", x.clock(false, false, 0), 1);
        Check.same("p is 0 then", x.chipHas(HELD), 0);
        ScanTester y = new ScanTester();
        walk(y, "0110");
        Check.same("in 10, not yet 11", y.clock(false, true, 0), 0);
        Check.same("in 11", y.clock(true, true, 0), 256);
        Check.same("in 12", y.clock(true, true, 0), 0);
    }

    private static void otherInputs() {
        Check.sentence("Promise 15", "IllegalArgumentException: inputs has other bits than there are inputs.");
        inputs(new ScanTester(), 0);
        inputs(Check.reading("in;ff p;out p;"), 0);
        inputs(Check.reading(CIRCUIT), 1);
        inputs(Check.reading(Check.PLAIN), 3);
        inputs(Check.reading("in a,b,c,d,e,f,g,h,i,j;ff;out j;"), 10);
    }

    private static void inputs(ScanTester x, int count) {
        Check.same("the most", x.clock(true, false, (1 << count) - 1) >= 0 ? 1 : 0, 1);
        for (int bit = count; bit < 32; bit++) {
            int other = 1 << bit;
            Check.argument("inputs " + other, () -> x.clock(false, true, other));
        }
        Check.argument("inputs -1", () -> x.clock(false, true, -1));
        Check.argument("inputs most", () -> x.clock(false, true, Integer.MAX_VALUE));
        Check.same("no clock came", x.chipHas(STATE), 0);
    }

    private static void has() {
        Check.sentence("Promise 16", "The chip's state (what = 0), code (1), flip-flops as bits (2), beside (3), the shifter (4).");
        ScanTester x = Check.reading("in a,b;ff p,q,r;p<-a;q<-b;r<-q;out;");
        // In idle q becomes 1, then p does and r becomes what q was; a bit goes beside; the code becomes 2.
        x.clock(false, false, 0);
        x.clock(false, false, 2);
        x.clock(true, false, 1);
        walk(x, "00");
        x.clock(true, true, 0);
        walk(x, "11 100");
        x.clock(false, false, 0);
        x.clock(true, true, 0);
        walk(x, "11");
        int[] due = {2, 2, 5, 1, 2};
        for (int k = 0; k < 2; k++) {
            for (int what = 0; what < 5; what++) {
                Check.same("chipHas " + what, x.chipHas(what), due[what]);
            }
        }
        ScanTester most = Check.reading("in;ff a,b,c,d,e,f,g,h,i,j;z=nand(a,a);j<-z;a<-z;out;");
        walk(most, "00");
        Check.same("ten flip-flops", most.chipHas(HELD), 513);
    }

    private static void anotherWhat() {
        Check.sentence("Promise 16", "IllegalArgumentException: another what.");
        for (ScanTester x : new ScanTester[] {new ScanTester(), Check.reading(CIRCUIT)}) {
            for (int what : new int[] {-1, 5, 6, Integer.MIN_VALUE, Integer.MAX_VALUE}) {
                Check.argument("chipHas " + what, () -> x.chipHas(what));
            }
        }
    }
}
