/** Patterns, answers and what is stuck, from "Terms"; promises 7 and 8: told, answer. */
public final class CircuitTest {
    private static final int NONE = ScanTester.NONE;

    public static void main(String[] args) {
        patterns();
        outputBits();
        nextBits();
        stuckValue();
        allThatLook();
        holdsWhatItHas();
        keepers();
        toldInputs();
        toldFlops();
        toldOutputs();
        toldTestable();
        toldTests();
        toldRows();
        anotherWhat();
        answers();
        otherBits();
        noSuchStuck();
        Check.end();
    }

    private static void patterns() {
        Check.sentence("Terms", "A PATTERN is a number: bit k for source k.");
        ScanTester x = Check.reading("in a,b,c,d,e;ff f,g,h,i,j;out a,b,c,d,e,f,g,h;");
        ScanTester y = Check.reading("in a,b,c,d,e;ff f,g,h,i,j;out i,j;");
        for (int k = 0; k < 8; k++) {
            Check.same("source " + k, x.answer(1 << k, NONE) & 255, 1 << k);
        }
        Check.same("source 8", y.answer(256, NONE) & 3, 1);
        Check.same("source 9", y.answer(512, NONE) & 3, 2);
        Check.same("none", x.answer(0, NONE), 0);
        Check.same("all", x.answer(1023, NONE), (1 << 13) - 1);
    }

    private static void outputBits() {
        Check.sentence("Terms", "An ANSWER: bit k for output k");
        ScanTester x = Check.reading("in a,b,c;ff;out c,a,c,b;");
        Check.same("a", x.answer(1, NONE), 0b0010);
        Check.same("b", x.answer(2, NONE), 0b1000);
        Check.same("c", x.answer(4, NONE), 0b0101);
        ScanTester none = Check.reading("in a,b,c;ff;out;");
        Check.same("without outputs", none.answer(7, NONE), 0);
        ScanTester most = Check.reading("in a;ff;b=not(a);out a,a,a,a,a,a,a,b;");
        Check.same("eight", most.answer(1, NONE), 127);
        Check.same("eight", most.answer(0, NONE), 128);
    }

    private static void nextBits() {
        Check.sentence("Terms", "and behind the outputs those for the nexts of the flip-flops");
        // As ff names the flip-flops, and not as their lines come.
        ScanTester x = Check.reading("in a,b;ff p,q;q<-a;p<-b;out q,p,a;");
        Check.same("pattern a", x.answer(1, NONE), 4 | 16);
        Check.same("pattern b", x.answer(2, NONE), 8);
        Check.same("pattern p", x.answer(4, NONE), 2);
        Check.same("pattern q", x.answer(8, NONE), 1);
        ScanTester none = Check.reading("in a;ff p;p<-a;out;");
        Check.same("behind no output", none.answer(1, NONE), 1);
        ScanTester most = Check.reading("in;ff a,b,c,d,e,f,g,h,i,j;a<-j;b<-a;c<-b;d<-c;e<-d;f<-e;g<-f;h<-g;i<-h;j<-i;"
            + "out a,b,c,d,e,f,g,h;");
        Check.same("eighteen bits", most.answer(1023, NONE), (1 << 18) - 1);
        Check.same("a goes to b", most.answer(1, NONE), 1 | 1 << 9);
        Check.same("i goes to j", most.answer(256, NONE), 1 << 17);
        Check.same("j goes to a", most.answer(512, NONE), 1 << 8);
    }

    private static void stuckValue() {
        Check.sentence("Terms", "STUCK f: net f / 2 has the value f modulo 2");
        ScanTester x = Check.reading("in a,b;ff;c=xor(a,b);out a,b,c;");
        int[] ofZero = {0b000, 0b101, 0b000, 0b110, 0b000, 0b100};
        int[] ofThree = {0b110, 0b011, 0b101, 0b011, 0b011, 0b111};
        for (int f = 0; f < 6; f++) {
            Check.same("pattern 0 with " + f, x.answer(0, f), ofZero[f]);
            Check.same("pattern 3 with " + f, x.answer(3, f), ofThree[f]);
        }
    }

    private static void allThatLook() {
        Check.sentence("Terms", "for all that look at it");
        // An output, two lines with = and a next look at c; what comes before it does not.
        ScanTester x = Check.reading("in a;ff p;c=and(a,a);d=not(c);e=xor(c,a);p<-c;out c,d,e,a;");
        Check.same("good", x.answer(0, NONE), 0b00010);
        Check.same("c at 1", x.answer(0, 5), 0b10101);
        Check.same("good", x.answer(1, NONE), 0b11001);
        Check.same("c at 0", x.answer(1, 4), 0b01110);
        Check.same("a at 1", x.answer(0, 1), 0b11001);
        Check.same("a at 0", x.answer(1, 0), 0b00010);
        ScanTester y = Check.reading("in;ff p,q;q<-p;n=not(p);out p,n;");
        Check.same("a flip-flop at 1", y.answer(0, 1), 0b1001);
        Check.same("a flip-flop at 0", y.answer(1, 0), 0b0110);
    }

    private static void holdsWhatItHas() {
        Check.sentence("Terms", "(a flip-flop holds, and is shifted, what it has)");
        ScanTester x = Check.reading("in a;ff p,q;p<-a;q<-p;out p;");
        x.chip(2);
        x.clock(false, false, 0);
        x.clock(false, false, 1);
        Check.same("p holds 1, though it is at 0", x.chipHas(2), 1);
        Check.same("but all that look see 0", x.clock(false, false, 0), 0);
        Check.same("q saw it too", x.chipHas(2), 0);
        x.chip(3);
        x.clock(false, false, 0);
        Check.same("p is seen at 1", x.clock(false, false, 0), 1);
        Check.same("p holds 0, q has what it saw", x.chipHas(2), 2);
        // With code 1 in state 4: p gives to q what it has.
        x.chip(2);
        ChipTest.load(x, 1);
        ChipTest.walk(x, "00");
        x.clock(false, true, 0);
        x.clock(false, false, 0);
        Check.same("what p had went on", x.chipHas(2), 2);
        Check.same("and comes out", x.clock(false, false, 0), 256);
    }

    private static void keepers() {
        Check.sentence("Terms", "without one it keeps what it has");
        ScanTester x = Check.reading("in;ff p,q;q<-q;out p,q;");
        for (int pattern = 0; pattern < 4; pattern++) {
            Check.same("good " + pattern, x.answer(pattern, NONE), pattern | pattern << 2);
        }
        // What it has is not what its net is stuck at.
        Check.same("p stuck at 1 keeps 0", x.answer(0, 1), 0b0001);
        Check.same("p stuck at 0 keeps 1", x.answer(1, 0), 0b0100);
        Check.same("q looks at itself", x.answer(0, 3), 0b1010);
        Check.same("q looks at itself", x.answer(2, 2), 0b0000);
        ScanTester alone = Check.reading("in;ff p;out;");
        Check.same("none is testable", alone.told(3), 0);
        Check.same("kept", alone.answer(1, 0), 1);
        alone.chip(1);
        alone.clock(false, false, 0);
        alone.clock(false, false, 0);
        Check.same("kept on a chip", alone.chipHas(2), 0);
    }

    private static void toldInputs() {
        Check.sentence("Promise 7", "How many inputs (what = 0)");
        Check.same("none", Check.reading("in;ff p;out p;").told(0), 0);
        Check.same("three", Check.reading(Check.PLAIN).told(0), 3);
        Check.same("ten", Check.reading("in a,b,c,d,e,f,g,h,i,j;ff;out;").told(0), 10);
    }

    private static void toldFlops() {
        Check.sentence("Promise 7", "flip-flops (1)");
        Check.same("none", Check.reading("in a;ff;out a;").told(1), 0);
        Check.same("two", Check.reading(Check.PLAIN).told(1), 2);
        Check.same("ten", Check.reading("in;ff a,b,c,d,e,f,g,h,i,j;out;").told(1), 10);
    }

    private static void toldOutputs() {
        Check.sentence("Promise 7", "outputs (2)");
        Check.same("none", Check.reading("in a;ff;out;").told(2), 0);
        Check.same("three", Check.reading(Check.PLAIN).told(2), 3);
        Check.same("eight of one net", Check.reading("in a;ff;out a,a,a,a,a,a,a,a;").told(2), 8);
    }

    private static void toldTestable() {
        Check.sentence("Promise 7", "testable ones of stuck 0, 1, .. (3)");
        Check.same("without nets", Check.reading("in;ff;out;").told(3), 0);
        Check.same("nothing to see", Check.reading("in a,b;ff;c=and(a,b);out;").told(3), 0);
        Check.same("all", Check.reading(Check.PLAIN).told(3), 20);
        Check.same("both of one", Check.reading("in a;ff;out a;").told(3), 2);
        Check.same("seen in a next alone", Check.reading("in a;ff p;p<-a;out;").told(3), 2);
        // b does nothing, and c at 1 is what d makes of it anyway.
        Check.same("some", Check.reading("in a,b;ff;c=or(a,b);d=and(a,c);out d,a;").told(3), 5);
    }

    private static void toldTests() {
        Check.sentence("Promise 7", "tests (4)");
        Check.same("without nets", Check.reading("in;ff;out;").told(4), 0);
        Check.same("nothing testable", Check.reading("in a,b;ff;c=and(a,b);out;").told(4), 0);
        Check.same("two", Check.reading("in a,b;ff;c=or(a,b);d=and(a,c);out d,a;").told(4), 2);
        Check.same("six", Check.reading(Check.PLAIN).told(4), 6);
    }

    private static void toldRows() {
        Check.sentence("Promise 7", "rows of the program (5) there are");
        Check.same("without tests", Check.reading("in;ff;out;").told(5), 14 + 4);
        Check.same("without tests, three flip-flops", Check.reading("in;ff a,b,c;out;").told(5), 14 + 7);
        Check.same("without flip-flops", Check.reading("in a,b;ff;c=or(a,b);d=and(a,c);out d,a;").told(5), 14 + 3 * 4);
        Check.same("with both", Check.reading(Check.PLAIN).told(5), 14 + 7 * 6);
        Check.same("ten flip-flops", Check.reading("in;ff a,b,c,d,e,f,g,h,i,j;out a;").told(5), 14 + 3 * 14);
    }

    private static void anotherWhat() {
        Check.sentence("Promise 7", "IllegalArgumentException: another what.");
        for (ScanTester x : new ScanTester[] {new ScanTester(), Check.reading(Check.PLAIN)}) {
            for (int what : new int[] {-1, 6, 7, 256, Integer.MIN_VALUE, Integer.MAX_VALUE}) {
                Check.argument("told " + what, () -> x.told(what));
            }
        }
    }

    private static void answers() {
        Check.sentence("Promise 8", "The answer to a pattern, with f stuck; NONE: a good chip.");
        ScanTester x = Check.reading("in a,b;ff p;c=and(a,b);p<-c;out c,a,p;");
        Check.same("good", x.answer(3, NONE), 0b1011);
        Check.same("a at 0", x.answer(3, 0), 0b0000);
        Check.same("a at 1", x.answer(2, 1), 0b1011);
        Check.same("c at 0", x.answer(3, 6), 0b0010);
        Check.same("c at 1", x.answer(0, 7), 0b1001);
        Check.same("p at 1", x.answer(0, 5), 0b0100);
        Check.same("p at 0", x.answer(4, 4), 0b0000);
        Check.same("good, behind the stuck ones", x.answer(3, NONE), 0b1011);
        // Not the chip's fault, nor what the chip has.
        x.chip(7);
        x.clock(false, false, 0);
        x.clock(false, false, 0);
        Check.same("good, whatever the chip is", x.answer(0, NONE), 0);
        Check.same("without sources", Check.reading("in;ff;out;").answer(0, NONE), 0);
    }

    private static void otherBits() {
        Check.sentence("Promise 8", "IllegalArgumentException: pattern has other bits than sources.");
        bits(new ScanTester(), 0);
        bits(Check.reading("in a;ff;out a;"), 1);
        bits(Check.reading("in;ff p;out p;"), 1);
        bits(Check.reading(Check.PLAIN), 5);
        bits(Check.reading("in a,b,c,d,e;ff f,g,h,i,j;out;"), 10);
    }

    private static void bits(ScanTester x, int sources) {
        Check.same("the most", x.answer((1 << sources) - 1, NONE) >= 0 ? 1 : 0, 1);
        for (int bit = sources; bit < 32; bit++) {
            int pattern = 1 << bit;
            Check.argument("pattern " + pattern, () -> x.answer(pattern, NONE));
        }
        Check.argument("pattern -1", () -> x.answer(-1, NONE));
        Check.argument("pattern most", () -> x.answer(Integer.MAX_VALUE, NONE));
    }

    private static void noSuchStuck() {
        Check.sentence("Promise 8", "IndexOutOfBoundsException: there is no such f.");
        ScanTester x = Check.reading(Check.PLAIN);
        Check.same("the first", x.answer(31, 0), 0b00100);
        Check.same("the last", x.answer(31, 19), 0b10110);
        for (int f : new int[] {20, 21, 120, -2, -3, Integer.MIN_VALUE, Integer.MAX_VALUE}) {
            Check.index("f = " + f, () -> x.answer(31, f));
            Check.index("f = " + f + " without nets", () -> new ScanTester().answer(0, f));
        }
        Check.index("f = 0 without nets", () -> new ScanTester().answer(0, 0));
    }
}
