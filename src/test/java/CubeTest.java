/** Promises 9 and 10: shows, test. */
public final class CubeTest {
    private static final int NONE = ScanTester.NONE;

    public static void main(String[] args) {
        plain();
        notTestable();
        manySources();
        freeFromTheFirst();
        merging();
        wrongInputs();
        Check.end();
    }

    private static void shows(ScanTester x, int f, int count, int least, int ones, int free) {
        Check.same("patterns of " + f, x.shows(f, 0), count);
        Check.same("least of " + f, x.shows(f, 1), least);
        Check.same("ones of " + f, x.shows(f, 2), ones);
        Check.same("free of " + f, x.shows(f, 3), free);
    }

    private static void plain() {
        ScanTester x = Check.reading("in a,b;ff;c=or(a,b);d=and(a,c);out d,a;");
        shows(x, 0, 2, 1, 1, 2);
        shows(x, 1, 2, 0, 0, 2);
        shows(x, 4, 2, 1, 1, 2);
        shows(x, 6, 2, 1, 1, 2);
        shows(x, 7, 2, 0, 0, 2);
        Check.same("test 0", x.test(0), 1);
        Check.same("test 1", x.test(1), 0);
    }

    private static void notTestable() {
        ScanTester x = Check.reading("in a,b;ff;c=or(a,b);d=and(a,c);out d,a;");
        shows(x, 2, 0, NONE, NONE, NONE);
        shows(x, 3, 0, NONE, NONE, NONE);
        shows(x, 5, 0, NONE, NONE, NONE);
    }

    /** Ten sources: more patterns than a long has bits. */
    private static void manySources() {
        ScanTester x = Check.reading("in a,b,c,d,e,f,g,h,i,j;ff;k=and(a,b,c,d);l=and(e,f,g);m=and(h,i,j);n=and(k,l,m);"
            + "o=xor(a,j);p=mux(j,a,i);out n,o;");
        shows(x, 26, 1, 1023, 1023, 0);
        shows(x, 27, 1023, 0, 0, 511);
        shows(x, 28, 512, 1, 1, 510);
        shows(x, 29, 512, 0, 0, 510);
        shows(x, 30, 0, NONE, NONE, NONE);
        shows(x, 18, 512, 512, 512, 511);
        shows(x, 16, 1, 1023, 1023, 0);
        ScanTester y = Check.reading("in a,b,c,d,e,f,g,h;ff;i=xor(g,h);out i;");
        shows(y, 16, 128, 64, 64, 63);
        shows(y, 17, 128, 0, 0, 63);
        shows(y, 12, 128, 64, 64, 128 | 63);
    }

    /** The sources become free in their order, each only if f shows still. */
    private static void freeFromTheFirst() {
        ScanTester x = Check.reading("in a,b,c;ff;d=nand(a,b,c);out d;");
        shows(x, 6, 7, 0, 0, 0b011);
        ScanTester y = Check.reading("in a,b;ff;c=or(a,b);out c;");
        shows(y, 4, 3, 1, 1, 2);
        ScanTester z = Check.reading("in;ff;out;");
        Check.index("no net", () -> z.shows(0, 0));
        ScanTester one = Check.reading("in a;ff;out a;");
        shows(one, 0, 1, 1, 1, 0);
        shows(one, 1, 1, 0, 0, 0);
    }

    private static void merging() {
        // a's and b's cubes are not against each other, so both come into one.
        ScanTester x = Check.reading("in a,b;ff;out a,b;");
        Check.same("tests", x.told(4), 2);
        Check.same("test 0 shows a and b at 0", x.test(0), 3);
        Check.same("test 1 shows a and b at 1", x.test(1), 0);
        ScanTester y = Check.reading("in a,b;ff;c=and(a,b);d=nor(a,b);out c,d;");
        shows(y, 0, 2, 1, 1, 2);
        shows(y, 3, 2, 0, 0, 1);
        Check.same("tests of two gates", y.told(4), 2);
        Check.same("a = 1 and b = 1", y.test(0), 3);
        Check.same("a = 0 and b = 0", y.test(1), 0);
        ScanTester z = Check.reading("in a,b;ff;c=and(a,b);d=nor(a,b);e=not(a);f=not(b);g=and(a,f);h=and(b,e);"
            + "out c,d,g,h;");
        Check.same("all can be shown", z.told(3), 16);
        // 0, 1, 3 stand behind one another; 4 comes into the first, 5 into the second,
        // 6 into the third, as the first that is not against it; 12 and 13 show already.
        tests("in a,b,c,d;ff;e=and(a,b);f=or(c,d);g=xor(e,f);out g,e;", 7, 2, 9);
        tests("in a,b,c;ff;d=and(a,b);e=or(d,c);out e;", 3, 2, 1, 4);
        tests(Check.PLAIN, 3, 2, 17, 4, 8, 0);
        everyTestableOneShows(z, 16);
        everyTestableOneShows(Check.reading(Check.PLAIN), 20);
        ScanTester none = Check.reading("in a,b;ff;out;");
        Check.same("nothing to test", none.told(4), 0);
    }

    private static void tests(String text, int... due) {
        ScanTester x = Check.reading(text);
        Check.same("tests of " + text, x.told(4), due.length);
        for (int i = 0; i < due.length; i++) {
            Check.same("test " + i + " of " + text, x.test(i), due[i]);
        }
    }

    private static void everyTestableOneShows(ScanTester x, int stuck) {
        for (int f = 0; f < stuck; f++) {
            boolean seen = false;
            for (int i = 0; i < x.told(4); i++) {
                seen |= x.answer(x.test(i), f) != x.answer(x.test(i), NONE);
            }
            Check.same(f + " shows with a test", seen ? 1 : 0, x.shows(f, 0) > 0 ? 1 : 0);
        }
    }

    private static void wrongInputs() {
        ScanTester x = Check.reading(Check.PLAIN);
        Check.index("shows(NONE)", () -> x.shows(NONE, 0));
        Check.index("shows(20)", () -> x.shows(20, 0));
        Check.index("both wrong", () -> x.shows(20, 4));
        Check.index("both wrong", () -> x.shows(Integer.MIN_VALUE, -1));
        Check.argument("what = 4", () -> x.shows(0, 4));
        Check.argument("what = -1", () -> x.shows(19, -1));
        Check.index("test(-1)", () -> x.test(-1));
        Check.index("test behind the last", () -> x.test(x.told(4)));
        Check.index("test(most)", () -> x.test(Integer.MAX_VALUE));
    }
}
