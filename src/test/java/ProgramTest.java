/** The program, from "Terms"; promises 11 to 13: row, fails, escapes. */
public final class ProgramTest {
    private static final int NONE = ScanTester.NONE;

    /** Its tests are 7 and 0; p becomes a, q becomes not p, and q is seen. */
    private static final String CHAIN = "in a;ff p,q;n=not(p);p<-a;q<-n;out q;";
    private static final String WITH_UNTESTABLE = "in a,b;ff;c=or(a,b);d=and(a,c);out d,a;";

    public static void main(String[] args) {
        whatIsSeen();
        nothingTold();
        lead();
        onceMore();
        captureWithoutFlops();
        captureOfTheTestBefore();
        asManyAsFlops();
        shiftedIn();
        shiftedOut();
        lastOfTheShifts();
        withoutTests();
        asAGoodChipDoes();
        firstRow();
        rows();
        noSuchRow();
        anotherWhat();
        newChipFails();
        passes();
        noSuchStuck();
        escaping();
        Check.end();
    }

    private static void row(ScanTester x, int i, int tms, int tdi, int inputs, int tdo, int outputs) {
        Check.same("tms of " + i, x.row(i, 0), tms);
        Check.same("tdi of " + i, x.row(i, 1), tdi);
        Check.same("inputs of " + i, x.row(i, 2), inputs);
        Check.same("tdo of " + i, x.row(i, 3), tdo);
        Check.same("outputs of " + i, x.row(i, 4), outputs);
    }

    private static void column(ScanTester x, int first, int what, int... due) {
        for (int k = 0; k < due.length; k++) {
            Check.same("row " + (first + k) + ", " + what, x.row(first + k, what), due[k]);
        }
    }

    private static void whatIsSeen() {
        Check.sentence("Terms", "what is to be seen before the clock: of tdo 0, 1 or 2 (anything), and of the outputs, or NONE (anything)");
        ScanTester x = Check.reading(CHAIN);
        column(x, 14, 3, 2, 2, 2, 2, 2, 2, 2, 2, 0, 1, 2, 2, 2, 2, 1, 0, 2, 2);
        column(x, 14, 4, NONE, NONE, NONE, NONE, NONE, NONE, NONE, 1, NONE, NONE, NONE, NONE, NONE, 0, NONE, NONE, NONE, NONE);
    }

    private static void nothingTold() {
        Check.sentence("Terms", "Where nothing is told: tdi 0, inputs 0, anything.");
        // The tests have all sources 1, so that what is not told would be seen.
        ScanTester x = Check.reading("in a,b;ff p;c=and(a,b,p);p<-c;out c;");
        Check.same("the first test", x.test(0), 7);
        for (int turn = 0; turn < 2; turn++) {
            int first = 14 + 5 * turn;
            row(x, first, 0, 0, 0, 2, NONE);
            row(x, first + 3, 1, 0, 0, 2, NONE);
            row(x, first + 4, 1, 0, 0, 2, NONE);
            Check.same("tdi in 3", x.row(first + 1, 1), 0);
            Check.same("tdo in 3", x.row(first + 1, 3), 2);
            Check.same("inputs in 4", x.row(first + 2, 2), 0);
            Check.same("outputs in 4", x.row(first + 2, 4), NONE);
        }
    }

    private static void lead() {
        Check.sentence("Terms", "Five with tms 1; tms 0; 1; 1; 0; 0; then tdi 1, tms 0; tdi 0, tms 1; tms 1; tms 1 (it stands in 2 then).");
        int[] tms = {1, 1, 1, 1, 1, 0, 1, 1, 0, 0, 0, 1, 1, 1};
        for (ScanTester x : new ScanTester[] {new ScanTester(), Check.reading(Check.PLAIN), Check.reading(WITH_UNTESTABLE)}) {
            for (int i = 0; i < 14; i++) {
                row(x, i, tms[i], i == 10 ? 1 : 0, 0, 2, NONE);
            }
            // Whatever the port stood in before.
            for (int k = 0; k < 7; k++) {
                x.clock(k % 3 == 1, true, 0);
            }
            for (int i = 0; i < 14; i++) {
                x.clock(x.row(i, 0) == 1, x.row(i, 1) == 1, x.row(i, 2));
            }
            Check.same("it stands in", x.chipHas(0), 2);
            Check.same("with the code", x.chipHas(1), 1);
        }
    }

    private static void onceMore() {
        Check.sentence("Terms", "For each test, and once more behind the last: tms 0");
        ScanTester x = Check.reading(CHAIN);
        Check.same("tests", x.told(4), 2);
        Check.same("rows", x.told(5), 14 + 3 * 6);
        for (int turn = 0; turn < 3; turn++) {
            row(x, 14 + 6 * turn, 0, 0, 0, 2, NONE);
        }
        Check.index("and no more", () -> x.row(32, 0));
        ScanTester y = Check.reading("in a;ff;out a;");
        Check.same("rows without flip-flops", y.told(5), 14 + 3 * 4);
        for (int turn = 0; turn < 3; turn++) {
            row(y, 14 + 4 * turn, 0, 0, 0, 2, NONE);
        }
    }

    private static void captureWithoutFlops() {
        Check.sentence("Terms", "then (in 3) tms 0, or 1 if there are no flip-flops");
        Check.same("one flip-flop", Check.reading("in;ff p;out p;").row(15, 0), 0);
        Check.same("two", Check.reading(CHAIN).row(15, 0), 0);
        Check.same("ten", Check.reading("in;ff a,b,c,d,e,f,g,h,i,j;out;").row(15, 0), 0);
        Check.same("none, and no tests", new ScanTester().row(15, 0), 1);
        ScanTester x = Check.reading("in a,b;ff;out a,b;");
        Check.same("rows", x.told(5), 26);
        int[] inputs = {0, 3, 0};
        int[] outputs = {NONE, 3, 0};
        for (int turn = 0; turn < 3; turn++) {
            int first = 14 + 4 * turn;
            row(x, first, 0, 0, 0, 2, NONE);
            row(x, first + 1, 1, 0, inputs[turn], 2, outputs[turn]);
            row(x, first + 2, 1, 0, 0, 2, NONE);
            row(x, first + 3, 1, 0, 0, 2, NONE);
        }
    }

    private static void captureOfTheTestBefore() {
        Check.sentence("Terms", "with the inputs of the test before this one and its outputs to be seen (if there is one)");
        ScanTester x = Check.reading(Check.PLAIN);
        // The tests are 3, 2, 17, 4, 8, 0: the three lowest bits are inputs.
        int[] inputs = {0, 3, 2, 1, 4, 0, 0};
        for (int turn = 0; turn < 7; turn++) {
            int at = 14 + 6 * turn + 1;
            Check.same("inputs at " + at, x.row(at, 2), inputs[turn]);
            int outputs = turn == 0 ? NONE : x.answer(x.test(turn - 1), NONE) & 7;
            Check.same("outputs at " + at, x.row(at, 4), outputs);
        }
        // Without inputs; without outputs there are no bits, but something is to be seen.
        ScanTester y = Check.reading("in;ff p;p<-p;out p;");
        column(y, 19, 2, 0, 0, 0, 0, 0);
        column(y, 19, 4, NONE, 1, NONE, NONE, NONE);
        ScanTester z = Check.reading("in a;ff p;p<-a;out;");
        column(z, 14, 4, NONE, NONE, NONE, NONE, NONE, NONE, 0, NONE, NONE, NONE, NONE, 0, NONE, NONE, NONE);
    }

    private static void asManyAsFlops() {
        Check.sentence("Terms", "then as many as there are flip-flops");
        // With the state before each row: shifts stand in 4 alone.
        String[] texts = {"in a;ff;out a;", "in a;ff p;out a;", "in a;ff p,q;out a;", "in;ff a,b,c,d,e,f,g,h,i,j;out a;"};
        int[] flops = {0, 1, 2, 10};
        for (int k = 0; k < texts.length; k++) {
            ScanTester x = Check.reading(texts[k]);
            int rows = x.told(5);
            int turns = (rows - 14) / (4 + flops[k]);
            int shifts = 0;
            for (int i = 0; i < rows; i++) {
                shifts += x.chipHas(0) == 4 ? 1 : 0;
                x.clock(x.row(i, 0) == 1, x.row(i, 1) == 1, 0);
            }
            Check.same("turns of " + texts[k], turns, x.told(4) + 1);
            Check.same("shifts of " + texts[k], shifts, turns * flops[k]);
            Check.same("it stands in 2 again", x.chipHas(0), 2);
        }
    }

    private static void shiftedIn() {
        Check.sentence("Terms", "tdi is what flip-flop F - 1, F - 2, .., 0 is to have by this test (0 behind the last)");
        // a at 0, then a at 1, show with p 1, q 0 and r 1 alone.
        ScanTester x = Check.reading("in a;ff p,q,r;n=not(q);b=and(a,p,n,r);out b;");
        Check.same("test 0", x.test(0), 11);
        Check.same("test 1", x.test(1), 10);
        column(x, 14, 1, 0, 0, 1, 0, 1, 0, 0);
        column(x, 21, 1, 0, 0, 1, 0, 1, 0, 0);
        int last = 14 + 7 * x.told(4);
        column(x, last, 1, 0, 0, 0, 0, 0, 0, 0);
        // Also where the circuit before had a test there, with p.
        ScanTester before = Check.reading("in a,b,c;ff;d=mux(b,a,c);out d,c;");
        Check.same("test 2", before.test(2), 3);
        before.wipe();
        Check.feed(before, CHAIN);
        before.read();
        column(before, 26, 1, 0, 0, 0, 0, 0, 0);
        // The highest goes in first.
        ScanTester y = Check.reading("in;ff p,q;n=not(q);b=and(p,n);out b;");
        Check.same("p alone", y.test(0), 1);
        column(y, 14, 1, 0, 0, 0, 1, 0, 0);
    }

    private static void shiftedOut() {
        Check.sentence("Terms", "tdo to be seen what F - 1, F - 2, .. 0 became by the test before (if there is one)");
        ScanTester x = Check.reading(CHAIN);
        column(x, 14, 3, 2, 2, 2, 2, 2, 2);
        column(x, 20, 3, 2, 2, 0, 1, 2, 2);
        column(x, 26, 3, 2, 2, 1, 0, 2, 2);
        // One that keeps what it has is seen as it came in.
        ScanTester y = Check.reading("in;ff p,q;out p;");
        Check.same("test 0", y.test(0), 1);
        column(y, 20, 3, 2, 2, 0, 1, 2, 2);
    }

    private static void lastOfTheShifts() {
        Check.sentence("Terms", "tms 0, but 1 with the last of them; then tms 1; tms 1.");
        column(Check.reading("in;ff p;out p;"), 14, 0, 0, 0, 1, 1, 1, 0);
        column(Check.reading(CHAIN), 14, 0, 0, 0, 0, 1, 1, 1, 0);
        column(Check.reading("in;ff a,b,c,d,e,f,g,h,i,j;out a;"), 14, 0, 0, 0, 0, 0, 0, 0, 0, 0, 0, 0, 0, 1, 1, 1, 0);
    }

    private static void withoutTests() {
        Check.sentence("Terms", "and once more behind the last");
        ScanTester x = new ScanTester();
        row(x, 14, 0, 0, 0, 2, NONE);
        row(x, 15, 1, 0, 0, 2, NONE);
        row(x, 16, 1, 0, 0, 2, NONE);
        row(x, 17, 1, 0, 0, 2, NONE);
        Check.index("nothing behind it", () -> x.row(18, 0));
        ScanTester y = Check.reading("in a;ff p,q;out;");
        Check.same("no test", y.told(4), 0);
        Check.same("rows", y.told(5), 20);
        int[] tms = {0, 0, 0, 1, 1, 1};
        for (int k = 0; k < 6; k++) {
            row(y, 14 + k, tms[k], 0, 0, 2, NONE);
        }
    }

    private static void asAGoodChipDoes() {
        Check.sentence("Terms", "All as a good chip does.");
        for (String text : new String[] {CHAIN, WITH_UNTESTABLE, "in a;ff p;out p,a;", "in;ff;out;"}) {
            ScanTester x = Check.reading(text);
            int rows = x.told(5);
            for (int i = 0; i < rows; i++) {
                int tdo = x.row(i, 3);
                int outputs = x.row(i, 4);
                int seen = x.clock(x.row(i, 0) == 1, x.row(i, 1) == 1, x.row(i, 2));
                Check.same("tdo at " + i, tdo == 2 ? 2 : seen >> 8, tdo);
                Check.same("outputs at " + i, outputs == NONE ? NONE : seen & 255, outputs);
            }
            Check.same("a good one", x.fails(NONE), NONE);
        }
    }

    private static void firstRow() {
        Check.sentence("Terms", "A chip FAILS at the first row at which it does not show what is to be seen.");
        // a at 0 is seen at an output in 3, and later in p.
        ScanTester x = Check.reading("in a;ff p;p<-a;out a;");
        Check.same("the tests", x.test(0) * 4 + x.test(1), 4);
        Check.same("outputs before the chain", x.fails(0), 14 + 5 + 1);
        Check.same("with the second test", x.fails(1), 14 + 10 + 1);
        // In the chain alone: the last flip-flop comes first.
        ScanTester y = Check.reading("in a;ff p,q;p<-a;q<-p;out;");
        Check.same("test 0", y.test(0), 3);
        Check.same("test 1", y.test(1), 0);
        Check.same("a at 0 shows in p, which comes last", y.fails(0), 14 + 6 + 3);
        Check.same("a at 1", y.fails(1), 14 + 12 + 3);
        Check.same("p at 0 shows in q, which comes first", y.fails(2), 14 + 6 + 2);
        Check.same("p at 1", y.fails(3), 14 + 12 + 2);
        // In two flip-flops at once: the first row of them.
        ScanTester z = Check.reading("in a;ff p,q;p<-a;q<-a;out;");
        Check.same("a at 0", z.fails(0), 14 + 6 + 2);
    }

    private static void rows() {
        Check.sentence("Promise 11", "Row i of the program: tms (what = 0), tdi (1), inputs (2), tdo to be seen (3), outputs to be seen (4).");
        ScanTester x = Check.reading(CHAIN);
        Check.same("the first thing that is asked", x.row(21, 4), 1);
        row(x, 0, 1, 0, 0, 2, NONE);
        row(x, 13, 1, 0, 0, 2, NONE);
        turn(x, 14, new int[] {1, 1}, 0, NONE, new int[] {2, 2});
        turn(x, 20, new int[] {0, 0}, 1, 1, new int[] {0, 1});
        turn(x, 26, new int[] {0, 0}, 0, 0, new int[] {1, 0});
    }

    private static void turn(ScanTester x, int first, int[] tdi, int inputs, int outputs, int[] tdo) {
        row(x, first, 0, 0, 0, 2, NONE);
        row(x, first + 1, 0, 0, inputs, 2, outputs);
        row(x, first + 2, 0, tdi[0], 0, tdo[0], NONE);
        row(x, first + 3, 1, tdi[1], 0, tdo[1], NONE);
        row(x, first + 4, 1, 0, 0, 2, NONE);
        row(x, first + 5, 1, 0, 0, 2, NONE);
    }

    private static void noSuchRow() {
        Check.sentence("Promise 11", "IndexOutOfBoundsException: there is none.");
        ScanTester x = Check.reading(Check.PLAIN);
        ScanTester none = new ScanTester();
        Check.same("the last", x.row(55, 0), 1);
        Check.same("the last without a circuit", none.row(17, 0), 1);
        for (int what = 0; what < 5; what++) {
            int its = what;
            for (int i : new int[] {56, 57, -1, -14, Integer.MIN_VALUE, Integer.MAX_VALUE}) {
                Check.index("row " + i, () -> x.row(i, its));
            }
            Check.index("row 18 without a circuit", () -> none.row(18, its));
        }
    }

    private static void anotherWhat() {
        Check.sentence("Promise 11", "IllegalArgumentException: another what.");
        ScanTester x = Check.reading(Check.PLAIN);
        for (int what : new int[] {-1, 5, 6, Integer.MIN_VALUE, Integer.MAX_VALUE}) {
            for (int i : new int[] {0, 13, 14, 55}) {
                Check.argument("row " + i + ", " + what, () -> x.row(i, what));
            }
        }
    }

    private static void newChipFails() {
        Check.sentence("Promise 12", "The row at which a new chip with f stuck fails");
        ScanTester x = Check.reading(WITH_UNTESTABLE);
        int[] due = {19, 23, NONE, NONE, 19, NONE, 19, 23};
        for (int f = 0; f < due.length; f++) {
            Check.same("fails " + f, x.fails(f), due[f]);
        }
        // A new one: neither the chip of chip(), nor one that ran before.
        x.chip(1);
        x.clock(false, true, 3);
        for (int k = 0; k < 2; k++) {
            for (int f = 7; f >= 0; f--) {
                Check.same("again, fails " + f, x.fails(f), due[f]);
            }
        }
        Check.same("the chip stays where it is", x.chipHas(0), 1);
        Check.same("and is stuck as it was", x.clock(false, false, 0), 2 | 1);
    }

    private static void passes() {
        Check.sentence("Promise 12", "NONE when it passes.");
        ScanTester x = Check.reading(WITH_UNTESTABLE);
        for (int f : new int[] {NONE, 2, 3, 5}) {
            Check.same("fails " + f, x.fails(f), NONE);
        }
        ScanTester y = Check.reading("in a;ff p,q;p<-a;q<-p;out;");
        Check.same("nothing looks at q", y.fails(4), NONE);
        Check.same("nothing looks at q", y.fails(5), NONE);
        Check.same("a good one", Check.reading(Check.PLAIN).fails(NONE), NONE);
        Check.same("without tests", Check.reading("in a;ff p;out;").fails(3), NONE);
    }

    private static void noSuchStuck() {
        Check.sentence("Promise 12", "IndexOutOfBoundsException: there is no such f (NONE: a good one).");
        ScanTester x = Check.reading(Check.PLAIN);
        Check.same("NONE", x.fails(NONE), NONE);
        Check.same("the last", x.fails(19) >= 14 ? 1 : 0, 1);
        for (int f : new int[] {20, 21, 120, -2, -3, Integer.MIN_VALUE, Integer.MAX_VALUE}) {
            Check.index("fails " + f, () -> x.fails(f));
        }
        Check.same("NONE without a circuit", new ScanTester().fails(NONE), NONE);
        Check.index("0 without a circuit", () -> new ScanTester().fails(0));
    }

    private static void escaping() {
        Check.sentence("Promise 13", "How many stuck f, of all, pass the program, though they are testable.");
        ScanTester x = Check.reading(WITH_UNTESTABLE);
        Check.same("the ones that pass are not testable", x.escapes(), 0);
        Check.same("and again", x.escapes(), 0);
        for (String text : new String[] {Check.PLAIN, CHAIN, "in;ff p,q,r;a=xor(p,r);p<-a;q<-p;r<-q;out r;", "in;ff p;out p;"}) {
            ScanTester y = Check.reading(text);
            int stuck = 2 * y.read();
            int due = 0;
            for (int f = 0; f < stuck; f++) {
                due += y.fails(f) == NONE && y.shows(f, 0) > 0 ? 1 : 0;
            }
            Check.same("those of " + text, y.escapes(), due);
        }
        // The first thing that is asked, where b showed in the circuit before, and answers to its tests are alike.
        ScanTester z = Check.reading("in a,b;ff;out a,b;");
        Check.same("testable", z.told(3), 4);
        z.wipe();
        Check.feed(z, "in a,b;ff;out a,a;");
        z.read();
        Check.same("b passes, but shows no more", z.escapes(), 0);
        Check.same("without a circuit", new ScanTester().escapes(), 0);
        Check.same("without tests", Check.reading("in a;ff p;out;").escapes(), 0);
    }
}
