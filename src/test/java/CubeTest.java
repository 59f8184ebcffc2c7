/** What shows, cubes, the choice and the tests, from "Terms"; promises 9 and 10: shows, test. */
public final class CubeTest {
    private static final int NONE = ScanTester.NONE;
    private static final String WITH_UNTESTABLE = "in a,b;ff;c=or(a,b);d=and(a,c);out d,a;";
    private static final String TEN = "in a,b,c,d,e,f,g,h,i,j;ff;k=and(a,b,c,d);l=and(e,f,g);m=and(h,i,j);n=and(k,l,m);"
        + "o=xor(a,j);p=mux(j,a,i);out n,o;";

    public static void main(String[] args) {
        showing();
        testable();
        cubes();
        cubeOf();
        freeInTheirOrder();
        withNoneOfTheChosen();
        firstNotAgainst();
        hasBoth();
        behindThem();
        freeIsZero();
        patternCounts();
        leasts();
        bitsOfCubes();
        notTestable();
        noSuchStuck();
        anotherWhat();
        tests();
        noSuchTest();
        everyTestableOneShows();
        Check.end();
    }

    private static void shows(ScanTester x, int f, int count, int least, int ones, int free) {
        Check.same("patterns of " + f, x.shows(f, 0), count);
        Check.same("least of " + f, x.shows(f, 1), least);
        Check.same("ones of " + f, x.shows(f, 2), ones);
        Check.same("free of " + f, x.shows(f, 3), free);
    }

    private static void tests(String text, int... due) {
        ScanTester x = Check.reading(text);
        Check.same("tests of " + text, x.told(4), due.length);
        for (int i = 0; i < due.length; i++) {
            Check.same("test " + i + " of " + text, x.test(i), due[i]);
        }
    }

    private static void showing() {
        Check.sentence("Terms", "f SHOWS with a pattern if the answer is another one than that of a good chip.");
        ScanTester x = Check.reading("in a,b;ff;c=and(a,b);out c;");
        shows(x, 0, 1, 3, 3, 0);
        shows(x, 1, 1, 2, 2, 0);
        shows(x, 4, 1, 3, 3, 0);
        shows(x, 5, 3, 0, 0, 1);
        // In a next alone, in the last output alone, in the last of ten nexts alone.
        shows(Check.reading("in a;ff p;p<-a;out;"), 0, 2, 1, 1, 2);
        shows(Check.reading("in a;ff;b=xor(a,a);out b,b,b,b,b,b,b,a;"), 1, 1, 0, 0, 0);
        shows(Check.reading("in;ff a,b,c,d,e,f,g,h,i,j;j<-a;out;"), 0, 512, 1, 1, 1022);
        // In every bit of the answers, as they are.
        ScanTester y = Check.reading(Check.PLAIN);
        for (int f = 0; f < 8; f++) {
            int count = 0;
            for (int pattern = 31; pattern >= 0; pattern--) {
                count += y.answer(pattern, f) != y.answer(pattern, NONE) ? 1 : 0;
            }
            Check.same("patterns of " + f, y.shows(f, 0), count);
            // No object is promised more than 512 calls.
            y = Check.reading(Check.PLAIN);
        }
    }

    private static void testable() {
        Check.sentence("Terms", "f is TESTABLE if it does with some pattern.");
        ScanTester x = Check.reading(WITH_UNTESTABLE);
        int[] due = {1, 1, 0, 0, 1, 0, 1, 1};
        for (int f = 0; f < 8; f++) {
            Check.same("f " + f, x.shows(f, 0) > 0 ? 1 : 0, due[f]);
            Check.same("f " + f, x.shows(f, 1) != NONE ? 1 : 0, due[f]);
        }
        Check.same("all of them", x.told(3), 5);
        // One pattern of 1024 is enough, the last one too.
        ScanTester y = Check.reading(TEN);
        shows(y, 26, 1, 1023, 1023, 0);
        Check.same("a net that nothing looks at", y.shows(30, 0), 0);
    }

    private static void cubes() {
        Check.sentence("Terms", "A CUBE: each source 0, 1 or FREE; f shows with a cube if it does with all patterns that it leaves.");
        // a is free and b is not, or the other way about; neither; both.
        ScanTester x = Check.reading("in a,b;ff;c=or(a,b);out a,b,c;");
        shows(x, 0, 2, 1, 1, 2);
        shows(x, 2, 2, 2, 2, 1);
        shows(x, 5, 1, 0, 0, 0);
        ScanTester y = Check.reading("in a,b;ff;c=xor(a,a);out c;");
        shows(y, 5, 4, 0, 0, 3);
        // Three of four patterns are not all that two free sources leave.
        shows(Check.reading("in a,b;ff;c=nand(a,b);out c;"), 4, 3, 0, 0, 1);
        // The pattern that does not show is the last of 512, 256, 128, .. that are left.
        shows(Check.reading(TEN), 27, 1023, 0, 0, 511);
    }

    private static void cubeOf() {
        Check.sentence("Terms", "THE CUBE OF f: the least pattern with which it shows");
        // Patterns 1 and 2 show, then 0 and 3.
        ScanTester x = Check.reading("in a,b;ff;c=xor(a,b);out c;");
        shows(x, 4, 2, 1, 1, 0);
        shows(x, 5, 2, 0, 0, 0);
        shows(x, 0, 2, 1, 1, 2);
        ScanTester y = Check.reading("in a,b,c,d,e,f,g,h;ff;i=xor(g,h);out i;");
        shows(y, 16, 128, 64, 64, 63);
        shows(y, 17, 128, 0, 0, 63);
        shows(y, 12, 128, 64, 64, 128 | 63);
    }

    private static void freeInTheirOrder() {
        Check.sentence("Terms", "then sources 0, 1, .. become free, each if f shows still");
        // The last one would show no more; from the last on it would be the first one.
        shows(Check.reading("in a,b,c;ff;d=nand(a,b,c);out d;"), 6, 7, 0, 0, 0b011);
        // From pattern 1 on: a can't, b can, c can: a alone is enough.
        shows(Check.reading("in a,b,c;ff;d=or(a,b,c);out d;"), 6, 7, 1, 1, 0b110);
        // A source behind one that can't become free may.
        shows(Check.reading("in a,b,c;ff;d=and(a,c);out d;"), 6, 2, 5, 5, 0b010);
        // Flip-flops are sources too.
        shows(Check.reading("in a;ff p,q;b=and(a,q);out b;"), 6, 2, 5, 5, 0b010);
    }

    private static void withNoneOfTheChosen() {
        Check.sentence("Terms", "for f = 0, 1, .., if it is testable, and shows with none of the cubes chosen so far");
        // b at 0 and at 1 come first, then a's are free of them: 0 is before 2 as it is met first.
        tests("in a,b;ff;out b;", 2, 0);
        tests("in a,b;ff;out b,a;", 3, 0);
        // d at 1 shows with the second cube, and all the rest behind it too, so no fourth is chosen.
        tests("in a,b,c;ff;d=mux(b,a,c);out d,c;", 1, 4, 3);
        // d at 1 shows with the first cube alone, or with the last alone, though its own is against it.
        tests("in a,b,c;ff;d=mux(b,a,c);out d,a;", 3, 6, 1);
        tests("in a,b;ff;c=not(b);d=mux(a,c,b);out d;", 3, 0, 2);
        // b at 1 shows with the second cube's least pattern, but not with all that it leaves.
        tests("in a,b,c;ff;d=or(c,b);out d,a;", 3, 0, 4);
        tests(WITH_UNTESTABLE, 1, 0);
    }

    private static void firstNotAgainst() {
        Check.sentence("Terms", "its cube comes into the first chosen one that is not against it (no source 0 in one and 1 in the other)");
        // b at 0 could come into either of a's.
        tests("in a,b;ff;out a,b;", 3, 0);
        // 0, 1, 3 stand behind one another; 4 comes into the first, 5 into the second,
        // 6 into the third, as the first that is not against it; 12 and 13 show already.
        tests("in a,b,c,d;ff;e=and(a,b);f=or(c,d);g=xor(e,f);out g,e;", 7, 2, 9);
        tests("in a,b,c;ff;d=and(a,b);e=or(d,c);out e;", 3, 2, 1, 4);
        tests("in a,b;ff;c=and(a,b);d=nor(a,b);out c,d;", 3, 0);
        // Ten sources, each free of the others: two cubes take them all.
        tests("in a,b;ff c,d,e,f,g,h,i,j;z=xor(a,b);out a,b,c,d,e,f,g,h;", 255, 0);
    }

    private static void hasBoth() {
        Check.sentence("Terms", "which has both then");
        // Behind a and b, c's cube comes in as well; then nothing is free.
        tests("in a,b,c;ff;out a,b,c;", 7, 0);
        // The first has a and b at 1 then, so that c at 0 must be against it.
        tests("in a,b;ff;d=nor(a,b);out a,b,d;", 3, 0);
        tests("in a,b;ff;c=not(b);d=and(a,c);out a,b,d;", 3, 0, 1);
    }

    private static void behindThem() {
        Check.sentence("Terms", "else behind them");
        tests("in a;ff;out a;", 1, 0);
        tests("in a,b;ff;c=xor(b,a);out c;", 3, 0, 1);
        tests(Check.PLAIN, 3, 2, 17, 4, 8, 0);
    }

    private static void freeIsZero() {
        Check.sentence("Terms", "In the end what is free is 0: THE TESTS.");
        tests("in a,b,c;ff;out b;", 2, 0);
        tests("in a,b;ff p;b1=and(a,p);out b1;", 5, 4, 1);
        // No test has a bit of a source that is free in all its cubes.
        ScanTester x = Check.reading("in a,b,c;ff;d=or(c,b);out d,a;");
        Check.same("the cube of 4 leaves a free", x.shows(4, 3), 1);
        Check.same("so it is 0 in its test", x.test(2) & 1, 0);
    }

    private static void patternCounts() {
        Check.sentence("Promise 9", "With how many patterns f shows (what = 0)");
        ScanTester x = Check.reading("in a,b,c,d,e,f,g;ff h,i,j;k=and(a,j);l=xor(a,a);out k,l;");
        Check.same("1 at all", x.shows(23, 0), 1024);
        Check.same("a quarter", x.shows(20, 0), 256);
        Check.same("the rest", x.shows(21, 0), 768);
        Check.same("none", x.shows(2, 0), 0);
        Check.same("with one source", Check.reading("in a;ff;out a;").shows(0, 0), 1);
        // With five, six and seven sources.
        Check.same("of 32", Check.reading("in a,b,c,d,e;ff;f=xor(a,a);out f;").shows(11, 0), 32);
        Check.same("of 64", Check.reading("in a,b,c,d,e,f;ff;g=xor(a,a);out g;").shows(13, 0), 64);
        Check.same("of 128", Check.reading("in a,b,c,d,e,f,g;ff;h=xor(a,a);out h;").shows(15, 0), 128);
    }

    private static void leasts() {
        Check.sentence("Promise 9", "the least of them (1; NONE when there is none)");
        Check.same("none", Check.reading(WITH_UNTESTABLE).shows(2, 1), NONE);
        Check.same("0", Check.reading(WITH_UNTESTABLE).shows(1, 1), 0);
        // A source alone in every place: its own bit is the least.
        ScanTester x = Check.reading("in a,b,c,d,e,f,g;ff h,i,j;a1=xor(a,b,c,d);a2=xor(e,f,g,h);a3=xor(i,j);"
            + "a4=xor(a1,a2,a3);out a4;");
        for (int k = 0; k < 10; k++) {
            Check.same("source " + k + " at 0", x.shows(2 * k, 1), 1 << k);
            Check.same("source " + k + " at 1", x.shows(2 * k + 1, 1), 0);
        }
        Check.same("the last pattern", Check.reading(TEN).shows(26, 1), 1023);
        // Patterns 63 and 64, the ends of what six sources can tell.
        ScanTester y = Check.reading("in a,b,c,d,e,f,g;ff;h=and(a,b,c);i=and(d,e,f);j=and(h,i);out j,g;");
        Check.same("63", y.shows(18, 1), 63);
        Check.same("64", y.shows(12, 1), 64);
    }

    private static void bitsOfCubes() {
        Check.sentence("Promise 9", "the bits of the cube of f that are 1 (2), those that are free (3");
        ScanTester x = Check.reading(TEN);
        shows(x, 28, 512, 1, 1, 510);
        shows(x, 29, 512, 0, 0, 510);
        shows(x, 18, 512, 512, 512, 511);
        shows(x, 16, 1, 1023, 1023, 0);
        shows(Check.reading("in a;ff;b=xor(a,a);out b;"), 3, 2, 0, 0, 1);
    }

    private static void notTestable() {
        Check.sentence("Promise 9", "both NONE when it isn't testable");
        ScanTester x = Check.reading(WITH_UNTESTABLE);
        for (int f : new int[] {2, 3, 5}) {
            shows(x, f, 0, NONE, NONE, NONE);
        }
        shows(Check.reading("in a;ff p;out;"), 2, 0, NONE, NONE, NONE);
        shows(Check.reading(TEN), 31, 0, NONE, NONE, NONE);
        // Before one that is, with all ten sources; and where the circuit before had one that was.
        ScanTester y = Check.reading("in a,b,c,d,e,f,g,h,i,j;ff;k=and(a,b);l=xor(a,j);out l;");
        shows(y, 20, 0, NONE, NONE, NONE);
        shows(y, 21, 0, NONE, NONE, NONE);
        Check.same("testable", y.told(3), 6);
        y.wipe();
        Check.feed(y, "in a;ff;out;");
        y.read();
        shows(y, 0, 0, NONE, NONE, NONE);
        shows(y, 1, 0, NONE, NONE, NONE);
        Check.same("testable", y.told(3), 0);
    }

    private static void noSuchStuck() {
        Check.sentence("Promise 9", "IndexOutOfBoundsException: there is no such f.");
        ScanTester x = Check.reading(Check.PLAIN);
        Check.same("the first", x.shows(0, 1), 3);
        Check.same("the last", x.shows(19, 1), 0);
        for (int f : new int[] {NONE, -2, 20, 21, 120, Integer.MIN_VALUE, Integer.MAX_VALUE}) {
            for (int what = 0; what < 4; what++) {
                int its = what;
                Check.index("shows " + f, () -> x.shows(f, its));
            }
        }
        Check.index("without nets", () -> new ScanTester().shows(0, 0));
    }

    private static void anotherWhat() {
        Check.sentence("Promise 9", "IllegalArgumentException: another what.");
        ScanTester x = Check.reading(WITH_UNTESTABLE);
        for (int what : new int[] {-1, 4, 5, Integer.MIN_VALUE, Integer.MAX_VALUE}) {
            for (int f = 0; f < 8; f++) {
                int its = f;
                Check.argument("what " + what, () -> x.shows(its, what));
            }
        }
    }

    private static void tests() {
        Check.sentence("Promise 10", "Test i.");
        ScanTester x = Check.reading(Check.PLAIN);
        int[] due = {3, 2, 17, 4, 8, 0};
        for (int i = 5; i >= 0; i--) {
            Check.same("test " + i, x.test(i), due[i]);
        }
        Check.same("the first thing that is asked", Check.reading(Check.PLAIN).test(2), 17);
    }

    private static void noSuchTest() {
        Check.sentence("Promise 10", "IndexOutOfBoundsException: there is none.");
        ScanTester x = Check.reading(Check.PLAIN);
        for (int i : new int[] {6, 7, 20, 120, -1, Integer.MIN_VALUE, Integer.MAX_VALUE}) {
            Check.index("test " + i, () -> x.test(i));
        }
        ScanTester none = Check.reading("in a,b;ff;out;");
        Check.index("without tests", () -> none.test(0));
        Check.index("without tests", () -> none.test(-1));
        // Fewer than the circuit before had.
        x.wipe();
        Check.feed(x, "in a;ff;out a;");
        x.read();
        Check.same("two now", x.test(1), 0);
        Check.index("of two", () -> x.test(2));
    }

    private static void everyTestableOneShows() {
        Check.sentence("What it is", "cubes that show each fault whatever else is there, merged into few");
        String[] texts = {Check.PLAIN, WITH_UNTESTABLE,
            "in a,b;ff;c=and(a,b);d=nor(a,b);e=not(a);f=not(b);g=and(a,f);h=and(b,e);out c,d,g,h;"};
        for (String text : texts) {
            ScanTester x = Check.reading(text);
            int[] test = new int[x.told(4)];
            int[] good = new int[test.length];
            for (int i = 0; i < test.length; i++) {
                test[i] = x.test(i);
                good[i] = x.answer(test[i], NONE);
            }
            int stuck = 2 * x.read();
            for (int f = 0; f < stuck; f++) {
                boolean seen = false;
                for (int i = 0; i < test.length; i++) {
                    seen |= x.answer(test[i], f) != good[i];
                }
                Check.same(f + " shows with a test", seen ? 1 : 0, x.shows(f, 0) > 0 ? 1 : 0);
            }
        }
    }
}
