/** Promises 11 to 13: row, fails, escapes. */
public final class ProgramTest {
    private static final int NONE = ScanTester.NONE;

    public static void main(String[] args) {
        lead();
        withoutFlops();
        withFlops();
        manyTests();
        failing();
        escaping();
        wrongInputs();
        Check.end();
    }

    private static void row(ScanTester x, int i, int tms, int tdi, int inputs, int tdo, int outputs) {
        Check.same("tms of " + i, x.row(i, 0), tms);
        Check.same("tdi of " + i, x.row(i, 1), tdi);
        Check.same("inputs of " + i, x.row(i, 2), inputs);
        Check.same("tdo of " + i, x.row(i, 3), tdo);
        Check.same("outputs of " + i, x.row(i, 4), outputs);
    }

    private static void lead() {
        int[] tms = {1, 1, 1, 1, 1, 0, 1, 1, 0, 0, 0, 1, 1, 1};
        for (ScanTester x : new ScanTester[] {new ScanTester(), Check.reading(Check.PLAIN)}) {
            for (int i = 0; i < 14; i++) {
                row(x, i, tms[i], i == 10 ? 1 : 0, 0, 2, NONE);
            }
        }
    }

    private static void withoutFlops() {
        ScanTester x = Check.reading("in a,b;ff;out a,b;");
        Check.same("rows", x.told(5), 26);
        Check.same("test 0", x.test(0), 3);
        Check.same("test 1", x.test(1), 0);
        int[] inputs = {0, 3, 0};
        int[] outputs = {NONE, 3, 0};
        for (int turn = 0; turn < 3; turn++) {
            int first = 14 + 4 * turn;
            row(x, first, 0, 0, 0, 2, NONE);
            row(x, first + 1, 1, 0, inputs[turn], 2, outputs[turn]);
            row(x, first + 2, 1, 0, 0, 2, NONE);
            row(x, first + 3, 1, 0, 0, 2, NONE);
        }
        Check.index("behind the last", () -> x.row(26, 0));
    }

    private static void withFlops() {
        // The tests have all sources 1, then all 0; p becomes a, q becomes not p.
        ScanTester x = Check.reading("in a;ff p,q;n=not(p);p<-a;q<-n;out q;");
        Check.same("tests", x.told(4), 2);
        Check.same("test 0", x.test(0), 7);
        Check.same("test 1", x.test(1), 0);
        Check.same("rows", x.told(5), 14 + 3 * 6);
        turn(x, 14, new int[] {1, 1}, 0, NONE, new int[] {2, 2});
        turn(x, 20, new int[] {0, 0}, 1, 1, new int[] {0, 1});
        turn(x, 26, new int[] {0, 0}, 0, 0, new int[] {1, 0});
    }

    private static void turn(ScanTester x, int first, int[] tdi, int inputs, int outputs, int[] tdo) {
        row(x, first, 0, 0, 0, 2, NONE);
        row(x, first + 1, 0, 0, inputs, 2, outputs);
        row(x, first + 2, 0, tdi[0], 0, tdo[0], NONE);
        row(x, first + 3, 1, tdi[1], 0, tdo[1], NONE);
        row(x, first + 4, 1, 0, 0, 2, NONE);
        row(x, first + 5, 1, 0, 0, 2, NONE);
    }

    /** The rows tell of each test what the other promises answer. */
    private static void manyTests() {
        ScanTester x = Check.reading(Check.PLAIN);
        int tests = x.told(4);
        for (int turn = 0; turn <= tests; turn++) {
            int first = 14 + turn * 6;
            int in = turn < tests ? x.test(turn) >> 3 : 0;
            int[] tdi = {in >> 1 & 1, in & 1};
            if (turn == 0) {
                turn(x, first, tdi, 0, NONE, new int[] {2, 2});
            } else {
                int before = x.test(turn - 1);
                int answer = x.answer(before, NONE);
                turn(x, first, tdi, before & 7, answer & 7, new int[] {answer >> 4 & 1, answer >> 3 & 1});
            }
        }
    }

    private static void failing() {
        ScanTester x = Check.reading("in a,b;ff;c=or(a,b);d=and(a,c);out d,a;");
        int[] due = {19, 23, NONE, NONE, 19, NONE, 19, 23};
        for (int f = 0; f < due.length; f++) {
            Check.same("fails " + f, x.fails(f), due[f]);
        }
        Check.same("a good one", x.fails(NONE), NONE);
        // Seen in the chain: nothing is an output here.
        ScanTester y = Check.reading("in a;ff p,q;p<-a;q<-p;out;");
        Check.same("test 0", y.test(0), 3);
        Check.same("test 1", y.test(1), 0);
        Check.same("a at 0 shows in p, which comes last", y.fails(0), 14 + 6 + 3);
        Check.same("a at 1", y.fails(1), 14 + 12 + 3);
        Check.same("p at 0 shows in q, which comes first", y.fails(2), 14 + 6 + 2);
        Check.same("p at 1", y.fails(3), 14 + 12 + 2);
        Check.same("nothing looks at q", y.fails(4), NONE);
        Check.same("nothing looks at q", y.fails(5), NONE);
        x.chip(0);
        x.clock(false, false, 1);
        x.fails(1);
        Check.same("the chip is not that of fails", x.chipHas(0), 1);
    }

    private static void escaping() {
        ScanTester x = Check.reading("in a,b;ff;c=or(a,b);d=and(a,c);out d,a;");
        Check.same("the ones that pass are not testable", x.escapes(), 0);
        Check.same("and again", x.escapes(), 0);
        ScanTester y = Check.reading(Check.PLAIN);
        int due = 0;
        for (int f = 0; f < 20; f++) {
            due += y.fails(f) == NONE && y.shows(f, 0) > 0 ? 1 : 0;
        }
        Check.same("those that pass though testable", y.escapes(), due);
        Check.same("an empty circuit", new ScanTester().escapes(), 0);
    }

    private static void wrongInputs() {
        ScanTester x = Check.reading(Check.PLAIN);
        Check.index("row(-1)", () -> x.row(-1, 0));
        Check.index("row(56)", () -> x.row(56, 0));
        Check.index("row(most)", () -> x.row(Integer.MAX_VALUE, 0));
        Check.index("both wrong", () -> x.row(56, 5));
        Check.argument("what = 5", () -> x.row(55, 5));
        Check.argument("what = -1", () -> x.row(0, -1));
        Check.index("fails(20)", () -> x.fails(20));
        Check.index("fails(-2)", () -> x.fails(-2));
        Check.index("fails on nothing", () -> new ScanTester().fails(0));
    }
}
