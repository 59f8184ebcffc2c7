/** An object at its limits: 512 calls, also with the dearest circuit in each of them. */
public final class LimitsTest {
    private static final int NONE = ScanTester.NONE;
    private static final int MOST_CALLS = 512;

    public static void main(String[] args) {
        manyClocks();
        manyReads();
        largest();
        Check.end();
    }

    private static void manyClocks() {
        Check.sentence("What it is", "An object is used for at most 512 calls after it has been made");
        ScanTester x = new ScanTester();
        for (int k = 0; k < MOST_CALLS - 1; k++) {
            x.clock(k % 2 == 1, true, 0);
        }
        // From 0 to 1, 2, 3 and 5, then 6, 7, 4 and 5 come in turn.
        Check.same("the last call", x.chipHas(0), 4);
    }

    private static String name(int net) {
        return net < 10 ? "" + (char) ('a' + net) : "" + (char) ('j' + net / 10) + net % 10;
    }

    /** Ten sources, 60 nets and eight outputs; each line looks at the nets ten and nine before it. */
    private static String dearest() {
        StringBuilder text = new StringBuilder("in a,b,c,d,e;ff f,g,h,i,j;");
        String[] operations = {"=xor(", "=and(", "=or("};
        for (int net = 10; net < 60; net++) {
            text.append(name(net)).append(operations[net % 3]);
            text.append(name(net - 10)).append(",").append(name(net - 9)).append(");");
        }
        return text + "f<-o1;g<-o2;h<-o3;i<-o4;j<-o5;out o6,o7,o8,o9,n1,n2,n3,n4;";
    }

    private static void manyReads() {
        Check.sentence("What it is", "An object is used for at most 512 calls after it has been made");
        ScanTester x = Check.reading(dearest());
        int tests = x.told(4);
        // Behind the feeds, the first read, fault and told.
        int calls = (dearest().length() + 7) / 8 + 3;
        while (calls + 4 <= MOST_CALLS) {
            Check.same("read", x.read(), 60);
            Check.same("tests", x.told(4), tests);
            Check.same("escapes", x.escapes(), 0);
            Check.same("a good one", x.fails(NONE), NONE);
            calls += 4;
        }
    }

    private static void largest() {
        Check.sentence("Terms", "10 at most together. Nets 60, outputs 8 at most.");
        ScanTester x = Check.reading(dearest());
        int tests = x.told(4);
        int rows = x.told(5);
        Check.same("rows", rows, 14 + 9 * (tests + 1));
        Check.same("the last row", x.row(rows - 1, 0), 1);
        Check.same("the last test's inputs, in the last turn", x.row(14 + 9 * tests + 1, 2), x.test(tests - 1) & 31);
        Check.index("no test behind it", () -> x.test(tests));
        Check.index("no row behind it", () -> x.row(rows, 0));
        for (int f = 0; f < 120; f++) {
            Check.same("fails " + f + " if it shows", x.fails(f) != NONE ? 1 : 0, x.shows(f, 0) > 0 ? 1 : 0);
        }
        Check.index("no net behind it", () -> x.fails(120));
    }
}
