import java.util.ArrayList;
import java.util.List;

/**
 * "Methods throw what their comments name, the one named first when several
 * would do; a call that throws, or answers NONE, changes nothing (but for
 * read())": method by method.
 */
public final class RefusalTest {
    private static final int NONE = ScanTester.NONE;
    private static final String FIRST = "the one named first when several would do";
    private static final String NOTHING = "a call that throws, or answers NONE, changes nothing";

    /** What no method takes as an index, and what none takes as a choice among a few. */
    private static final int[] FAR = {-2, -3, 1 << 10, 1 << 16, Integer.MIN_VALUE, Integer.MIN_VALUE + 1, Integer.MAX_VALUE};

    /** b is at most one test's; the net d is never seen. */
    private static final String CIRCUIT = "in a;ff p;b=xor(a,p);d=not(a);p<-b;out b;";
    private static final int STUCK = 8;

    /** Numbers at and beyond every edge of the circuits below, in all methods. */
    private static final int[] NUMBERS = {Integer.MIN_VALUE, -256, -2, -1, 0, 1, 2, 3, 4, 5, 6, 7, 8, 9, 17, 18, 33, 34, 1 << 30,
        Integer.MAX_VALUE};

    /** A call on an object. */
    private interface Asking {
        void on(ScanTester x);
    }

    public static void main(String[] args) {
        named();
        firstNamed();
        throwing();
        answeringNone();
        readAnsweringNone();
        asking();
        Check.end();
    }

    private static void named() {
        Check.sentence("Terms", "Methods throw what their comments name");
        // Inputs, sources, stuck ones, tests and rows of each.
        named("in;ff;out;", 0, 0, 0, 0, 18);
        named(CIRCUIT, 1, 2, STUCK, 3, 34);
    }

    private static void named(String text, int inputs, int sources, int stuck, int tests, int rows) {
        ScanTester x = Check.reading(text);
        Check.same("tests", x.told(4), tests);
        Check.same("rows", x.told(5), rows);
        for (int n : NUMBERS) {
            Check.throwing("feed " + n, argument(n >= 1 && n <= 8), () -> new ScanTester().feed(n, -1L));
            Check.throwing("told " + n, argument(isBelow(n, 6)), () -> x.told(n));
            Check.throwing("test " + n, index(isBelow(n, tests)), () -> x.test(n));
            Check.throwing("fails " + n, index(n == NONE || isBelow(n, stuck)), () -> x.fails(n));
            Check.throwing("chip " + n, index(n == NONE || isBelow(n, stuck)), () -> x.chip(n));
            Check.throwing("clock " + n, argument(isBelow(n, 1 << inputs)), () -> x.clock(true, true, n));
            Check.throwing("chipHas " + n, argument(isBelow(n, 5)), () -> x.chipHas(n));
        }
        for (int n : NUMBERS) {
            // None is promised more than 512 calls.
            ScanTester y = Check.reading(text);
            for (int m : NUMBERS) {
                boolean isChip = m == NONE || isBelow(m, stuck);
                Class<?> answer = isBelow(n, 1 << sources) ? index(isChip) : argument(false);
                Check.throwing("answer " + n + " " + m, answer, () -> y.answer(n, m));
                Class<?> shows = isBelow(n, stuck) ? argument(isBelow(m, 4)) : index(false);
                Check.throwing("shows " + n + " " + m, shows, () -> y.shows(n, m));
                Class<?> row = isBelow(n, rows) ? argument(isBelow(m, 5)) : index(false);
                Check.throwing("row " + n + " " + m, row, () -> y.row(n, m));
            }
        }
    }

    private static boolean isBelow(int n, int bound) {
        return n >= 0 && n < bound;
    }

    private static Class<?> argument(boolean isFine) {
        return isFine ? null : IllegalArgumentException.class;
    }

    private static Class<?> index(boolean isFine) {
        return isFine ? null : IndexOutOfBoundsException.class;
    }

    private static void firstNamed() {
        Check.sentence("Terms", FIRST);
        ScanTester x = Check.reading(CIRCUIT);
        int rows = x.told(5);
        for (int far : FAR) {
            // answer: IllegalArgumentException, IndexOutOfBoundsException.
            Check.argument("answer, both", () -> x.answer(4, far));
            Check.argument("answer, both", () -> x.answer(-1, far));
            Check.argument("answer, both at the edge", () -> x.answer(4, STUCK));
            Check.argument("answer, the pattern", () -> x.answer(far, NONE));
            Check.index("answer, f", () -> x.answer(3, far));
            // shows: IndexOutOfBoundsException, IllegalArgumentException.
            Check.index("shows, both", () -> x.shows(STUCK, far));
            Check.index("shows, both", () -> x.shows(NONE, far));
            Check.index("shows, both", () -> x.shows(far, 4));
            Check.index("shows, both", () -> x.shows(far, -1));
            Check.index("shows, f", () -> x.shows(far, 3));
            Check.argument("shows, what", () -> x.shows(0, far));
            // row: IndexOutOfBoundsException, IllegalArgumentException.
            Check.index("row, both", () -> x.row(rows, far));
            Check.index("row, both", () -> x.row(-1, far));
            Check.index("row, both", () -> x.row(far, 5));
            Check.index("row, both", () -> x.row(far, -1));
            Check.index("row, i", () -> x.row(far, 4));
            Check.argument("row, what", () -> x.row(rows - 1, far));
        }
        ScanTester none = new ScanTester();
        Check.argument("answer without a circuit", () -> none.answer(1, 0));
        Check.index("shows without a circuit", () -> none.shows(0, 4));
        Check.index("row behind the last without a circuit", () -> none.row(18, 5));
        // A wrong n comes before a full tape.
        Check.feed(none, " ".repeat(900));
        Check.argument("feed on a full tape", () -> none.feed(9, 0));
        Check.argument("feed on a full tape", () -> none.feed(0, 0));
    }

    private static void throwing() {
        Check.sentence("Terms", NOTHING);
        throwing("feed", x -> x.feed(0, -1L), x -> x.feed(9, -1L), x -> x.feed(-1, 0));
        throwing("told", x -> x.told(-1), x -> x.told(6));
        throwing("answer", x -> x.answer(4, 0), x -> x.answer(0, STUCK), x -> x.answer(-1, -2));
        throwing("shows", x -> x.shows(NONE, 0), x -> x.shows(STUCK, 3), x -> x.shows(0, 4), x -> x.shows(0, -1));
        throwing("test", x -> x.test(-1), x -> x.test(100), x -> x.test(x.told(4)));
        throwing("row", x -> x.row(-1, 0), x -> x.row(1000, 0), x -> x.row(0, 5), x -> x.row(0, -1));
        throwing("fails", x -> x.fails(-2), x -> x.fails(STUCK));
        throwing("chip", x -> x.chip(-2), x -> x.chip(STUCK), x -> x.chip(Integer.MAX_VALUE));
        throwing("clock", x -> x.clock(true, true, 2), x -> x.clock(false, true, -1), x -> x.clock(true, false, 1 << 31));
        throwing("chipHas", x -> x.chipHas(-1), x -> x.chipHas(5));
    }

    private static void throwing(String method, Asking... calls) {
        for (int k = 0; k < calls.length; k++) {
            Asking call = calls[k];
            changesNothing(method + " that throws, " + k, x -> {
                boolean threw = false;
                try {
                    call.on(x);
                } catch (IllegalArgumentException | IndexOutOfBoundsException e) {
                    threw = true;
                }
                Check.same(method + " threw", threw ? 1 : 0, 1);
            });
        }
    }

    private static void none(String method, int got) {
        Check.same(method, got, NONE);
    }

    private static void answeringNone() {
        Check.sentence("Terms", NOTHING + " (but for read())");
        changesNothing("feed that answers NONE", x -> {
            none("feed", x.feed(8, -1L));
            none("feed", x.feed(6, -1L));
        });
        changesNothing("shows that answers NONE", x -> {
            for (int what = 1; what < 4; what++) {
                none("shows", x.shows(6, what));
            }
        });
        changesNothing("row that answers NONE", x -> none("row", x.row(0, 4)));
        changesNothing("fails that answers NONE", x -> {
            none("fails", x.fails(NONE));
            none("fails", x.fails(7));
        });
        ScanTester x = Check.reading(CIRCUIT);
        none("place", x.place());
        none("place again", x.place());
        Check.same("fault", x.fault(), 0);
    }

    /** The one call that answers NONE and changes something: what fault() and place() answer, and no more. */
    private static void readAnsweringNone() {
        Check.sentence("Terms", "(but for read())");
        ScanTester x = busy();
        ScanTester same = busy();
        for (ScanTester each : new ScanTester[] {x, same}) {
            each.wipe();
            Check.feed(each, "in a;ff;out a,a,a,a,a,a,a,a,a;");
        }
        none("read", x.read());
        Check.same("fault before", same.fault(), 2);
        Check.same("place before", same.place(), 12);
        Check.same("fault", x.fault(), 4);
        Check.same("place", x.place(), 28);
        List<Integer> due = all(same);
        List<Integer> got = all(x);
        for (int k = 2; k < due.size(); k++) {
            Check.same("answer " + k, got.get(k), due.get(k));
        }
        Check.same("the tape", x.wipe(), 30);
    }

    /** No call that only answers leaves anything behind. */
    private static void asking() {
        Check.sentence("Not promised", "Nothing is promised beyond the answers and state changes described above");
        changesNothing("fault", ScanTester::fault);
        changesNothing("place", ScanTester::place);
        changesNothing("told", x -> x.told(3));
        changesNothing("answer", x -> x.answer(3, 5));
        changesNothing("shows", x -> x.shows(5, 2));
        changesNothing("test", x -> x.test(0));
        changesNothing("row", x -> x.row(20, 3));
        changesNothing("fails", x -> x.fails(5));
        changesNothing("escapes", ScanTester::escapes);
        changesNothing("chipHas", x -> x.chipHas(2));
    }

    /**
     * Its last read met fault 2 at 12; its chip is stuck and has something
     * everywhere; its tape has 895 bytes, a circuit that is not read.
     */
    private static ScanTester busy() {
        ScanTester x = new ScanTester();
        Check.feed(x, CIRCUIT);
        x.read();
        x.wipe();
        Check.feed(x, "in a;ff;out b;");
        x.read();
        x.wipe();
        x.chip(7);
        // p becomes 1 in idle; the code becomes 2; then a bit goes beside.
        String tms = "0110001101000";
        String tdi = "0000001000001";
        for (int k = 0; k < tms.length(); k++) {
            x.clock(tms.charAt(k) == '1', tdi.charAt(k) == '1', k == 9 ? 1 : 0);
        }
        Check.feed(x, "in c,e;ff f;g=and(c,e);f<-g;out g;" + " ".repeat(895 - 34));
        return x;
    }

    /** All that an object answers before its circuit, its chip or its tape are made others. */
    private static List<Integer> all(ScanTester x) {
        List<Integer> answers = new ArrayList<>();
        answers.add(x.fault());
        answers.add(x.place());
        // Before what is asked below could change it.
        for (int what = 0; what < 5; what++) {
            answers.add(x.chipHas(what));
        }
        for (int what = 0; what < 6; what++) {
            answers.add(x.told(what));
        }
        for (int f = NONE; f < STUCK; f++) {
            answers.add(x.answer(f & 3, f));
            answers.add(x.fails(f));
        }
        for (int f = 0; f < STUCK; f++) {
            answers.add(x.shows(f, 0));
            answers.add(x.shows(f, f % 3 + 1));
        }
        for (int i = 0; i < x.told(4); i++) {
            answers.add(x.test(i));
        }
        for (int i = 0; i < x.told(5); i++) {
            answers.add(x.row(i, i % 2 == 0 ? 2 + i / 2 % 3 : i / 2 % 2));
        }
        answers.add(x.escapes());
        for (int k = 0; k < 12; k++) {
            for (int what = 0; what < 5; what++) {
                answers.add(x.chipHas(what));
            }
            answers.add(x.clock(k % 3 != 1, k % 2 == 0, k / 3 % 2));
        }
        return answers;
    }

    /** Whether an object on which a call was made answers as one on which it was not. */
    private static void changesNothing(String what, Asking call) {
        ScanTester x = busy();
        ScanTester same = busy();
        call.on(x);
        List<Integer> due = all(same);
        List<Integer> got = all(x);
        Check.same(what + ": answers", got.size(), due.size());
        for (int k = 0; k < due.size(); k++) {
            Check.same(what + ": answer " + k, got.get(k), due.get(k));
        }
        // The tape has room for five more, which must come behind a good circuit.
        Check.same(what + ": the tape's length", x.feed(5, 0x2020202020L), 900);
        Check.same(what + ": the tape's circuit", x.read(), 4);
        Check.same(what + ": its answer", x.answer(3, NONE), 3);
        Check.same(what + ": the whole tape", x.wipe(), 900);
    }
}
