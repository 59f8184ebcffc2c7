/** Promises 4 to 6: read, fault, place. */
public final class ReadTest {
    private static final int NONE = ScanTester.NONE;

    public static void main(String[] args) {
        becomesThatOfTheTape();
        tapeStays();
        chipAsAtFirst();
        howManyNets();
        allStays();
        faultOfTheLast();
        noFault();
        placeOfThatFault();
        noPlace();
        Check.end();
    }

    private static void read(ScanTester x, String text) {
        x.wipe();
        Check.feed(x, text);
        x.read();
    }

    private static void becomesThatOfTheTape() {
        Check.sentence("Promise 4", "The circuit becomes that of the tape");
        ScanTester x = new ScanTester();
        read(x, "in a,b;ff;c=or(a,b);d=and(a,c);out d,a;");
        told(x, 2, 0, 2, 5, 2, 26);
        Check.same("test 0", x.test(0), 1);
        // Smaller, then with more: nothing of the one before is left.
        read(x, "in;ff;out;");
        told(x, 0, 0, 0, 0, 0, 18);
        Check.same("no tests", x.escapes(), 0);
        Check.index("no net is left", () -> x.shows(0, 0));
        read(x, Check.PLAIN);
        told(x, 3, 2, 3, 20, 6, 56);
        Check.same("test 2", x.test(2), 17);
        read(x, "in;ff p,q;out p;");
        told(x, 0, 2, 1, 2, 2, 32);
        Check.same("no next is left", x.answer(2, NONE), 4);
        // Without a read the tape is no circuit.
        x.wipe();
        Check.feed(x, Check.PLAIN);
        Check.same("not read yet", x.told(0), 0);
    }

    private static void told(ScanTester x, int... due) {
        for (int what = 0; what < due.length; what++) {
            Check.same("told " + what, x.told(what), due[what]);
        }
    }

    private static void tapeStays() {
        Check.sentence("Promise 4", "(which stays)");
        ScanTester x = new ScanTester();
        Check.feed(x, "in a;ff;out a;");
        for (int k = 0; k < 3; k++) {
            Check.same("read", x.read(), 1);
        }
        Check.same("feed behind it", x.feed(1, '?'), 15);
        Check.same("read", x.read(), NONE);
        Check.same("place", x.place(), 14);
        Check.same("read again", x.read(), NONE);
        Check.same("place", x.place(), 14);
        Check.same("wipe", x.wipe(), 15);
    }

    private static void chipAsAtFirst() {
        Check.sentence("Promise 4", "the chip a good one, as at first");
        ScanTester x = new ScanTester();
        Check.feed(x, "in a;ff b;b<-a;out b;");
        x.read();
        x.chip(1);
        // To code 2; b becomes 1 in idle, for a is stuck; then a bit goes beside.
        String tms = "0110001101000";
        String tdi = "0000001000001";
        for (int k = 0; k < tms.length(); k++) {
            x.clock(tms.charAt(k) == '1', tdi.charAt(k) == '1', 0);
        }
        for (int what = 0; what < 5; what++) {
            Check.same("before: chipHas " + what + " is another", x.chipHas(what) != (what == 1 ? 3 : 0) ? 1 : 0, 1);
        }
        x.read();
        int[] due = {0, 3, 0, 0, 0};
        for (int what = 0; what < 5; what++) {
            Check.same("chipHas " + what, x.chipHas(what), due[what]);
        }
        x.clock(false, true, 0);
        x.clock(false, true, 0);
        Check.same("a is not stuck", x.chipHas(2), 0);
    }

    private static void howManyNets() {
        Check.sentence("Promise 4", "Answers how many nets it has");
        Check.good("in;ff;out;", 0);
        Check.good("in a;ff;out;", 1);
        Check.good("in;ff a;a<-a;out a,a;", 1);
        Check.good(Check.PLAIN, 10);
        Check.good("in a,b,c;ff;d=and(a,b);e=or(a,b,c);f=xor(a,b,c,d);g=nand(a,b);h=nor(a,a);"
            + "i=not(a);j=buf(a);k=mux(a,b,c);out k;", 11);
        Check.good("in a;ff;" + TextTest.inverters(59) + "out;", 60);
    }

    private static void allStays() {
        Check.sentence("Promise 4", "NONE when there is a fault: all stays.");
        String[] faulty = {"", "in b;ff;out b,?;", "in b;ff c;c<-b;out d;", "in b,b;ff;out;", "in b;ff;c=not(b);out c,c,c,c,c,c,c,c,c;"};
        for (String text : faulty) {
            ScanTester x = busy();
            ScanTester same = busy();
            x.wipe();
            same.wipe();
            Check.feed(x, text);
            Check.same("read of " + text, x.read(), NONE);
            told(x, 3, 2, 3, 20, 6, 56);
            for (int f = NONE; f < 20; f++) {
                Check.same("answer " + f, x.answer(7, f), same.answer(7, f));
                Check.same("fails " + f, x.fails(f), same.fails(f));
            }
            for (int i = 0; i < 6; i++) {
                Check.same("test " + i, x.test(i), same.test(i));
            }
            for (int k = 0; k < 20; k++) {
                for (int what = 0; what < 5; what++) {
                    Check.same("chipHas " + what, x.chipHas(what), same.chipHas(what));
                }
                Check.same("clock " + k, x.clock(k % 5 == 3, true, k % 8), same.clock(k % 5 == 3, true, k % 8));
            }
            Check.same("the tape stays", x.wipe(), text.length());
        }
        // Also when nothing was asked for before the fault, and on a new object.
        ScanTester y = Check.reading(Check.PLAIN);
        y.wipe();
        y.read();
        Check.same("tests are made behind it", y.test(2), 17);
        ScanTester z = new ScanTester();
        z.read();
        told(z, 0, 0, 0, 0, 0, 18);
    }

    /** An object whose chip is stuck and under way. */
    private static ScanTester busy() {
        ScanTester x = Check.reading(Check.PLAIN);
        x.told(4);
        x.chip(18);
        x.clock(false, true, 5);
        x.clock(false, true, 5);
        return x;
    }

    private static void faultOfTheLast() {
        Check.sentence("Promise 5", "The fault that the last read() met, 1 to 4");
        ScanTester x = new ScanTester();
        String[] texts = {"in a;ff;out ?;", "in a;ff;out b;", "in a;ff;a=not(a);out;", "in a;ff;b=and(a,a,a,a,a);out;"};
        for (int k = 0; k < 4; k++) {
            read(x, texts[k]);
            Check.same("fault of " + texts[k], x.fault(), k + 1);
            Check.same("and again", x.fault(), k + 1);
        }
        x.wipe();
        Check.feed(x, "in;ff;out;");
        Check.same("not read yet", x.fault(), 4);
        read(x, texts[1]);
        Check.same("the last", x.fault(), 2);
    }

    private static void noFault() {
        Check.sentence("Promise 5", "0 when it met none, or there was none.");
        ScanTester x = new ScanTester();
        Check.same("no read yet", x.fault(), 0);
        Check.feed(x, "?");
        Check.same("no read yet, with a fault on the tape", x.fault(), 0);
        read(x, "in;ff;out;");
        Check.same("it met none", x.fault(), 0);
        read(x, "?");
        Check.same("it met one", x.fault(), 1);
        read(x, "in;ff;out;");
        Check.same("it met none", x.fault(), 0);
    }

    private static void placeOfThatFault() {
        Check.sentence("Promise 6", "The place of that fault on the tape");
        ScanTester x = new ScanTester();
        read(x, "");
        Check.same("the end of nothing", x.place(), 0);
        read(x, "?");
        Check.same("the first byte", x.place(), 0);
        read(x, "  in");
        Check.same("the end", x.place(), 4);
        read(x, "\t\0in  ab;ff;out;");
        Check.same("blanks count as bytes", x.place(), 6);
        read(x, "in a;ff;out b;");
        Check.same("a name", x.place(), 12);
        read(x, " ".repeat(899) + "?");
        Check.same("the last byte", x.place(), 899);
        x.wipe();
        Check.same("it stays behind a wipe", x.place(), 899);
        Check.feed(x, "in;ff;out;");
        Check.same("and behind a feed", x.place(), 899);
    }

    private static void noPlace() {
        Check.sentence("Promise 6", "NONE when there is none.");
        ScanTester x = new ScanTester();
        Check.same("no read yet", x.place(), NONE);
        read(x, "in;ff;out;");
        Check.same("no fault", x.place(), NONE);
        read(x, "in;ff;out;?");
        Check.same("a fault", x.place(), 10);
        read(x, "in;ff;out;");
        Check.same("no fault again", x.place(), NONE);
    }
}
