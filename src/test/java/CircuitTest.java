/** Promises 7 and 8: told, answer. */
public final class CircuitTest {
    private static final int NONE = ScanTester.NONE;

    public static void main(String[] args) {
        telling();
        operations();
        places();
        stuck();
        keepers();
        wrongInputs();
        Check.end();
    }

    private static void telling() {
        ScanTester x = Check.reading(Check.PLAIN);
        int[] due = {3, 2, 3, 20, 6, 56};
        for (int what = 0; what < 6; what++) {
            Check.same("told " + what, x.told(what), due[what]);
        }
        Check.argument("told(-1)", () -> x.told(-1));
        Check.argument("told(6)", () -> x.told(6));
        Check.argument("told(least)", () -> x.told(Integer.MIN_VALUE));
        ScanTester y = Check.reading("in a,b;ff;c=or(a,b);d=and(a,c);out d,a;");
        Check.same("testable ones", y.told(3), 5);
        Check.same("tests", y.told(4), 2);
        Check.same("rows", y.told(5), 14 + 3 * 4);
    }

    /** Each table: bit p is the answer to pattern p. */
    private static void operations() {
        table("not(a)", 0b01010101);
        table("buf(b)", 0b11001100);
        table("and(a,b)", 0b10001000);
        table("or(a,b)", 0b11101110);
        table("xor(a,b)", 0b01100110);
        table("nand(a,b)", 0b01110111);
        table("nor(a,b)", 0b00010001);
        table("and(a,b,c)", 0b10000000);
        table("or(a,b,c)", 0b11111110);
        table("xor(a,b,c)", 0b10010110);
        table("nand(a,b,c)", 0b01111111);
        table("nor(a,b,c)", 0b00000001);
        table("xor(a,b,c,c)", 0b01100110);
        table("and(a,a,b,c)", 0b10000000);
        table("mux(a,b,c)", 0b11100100);
        table("mux(c,a,b)", 0b11001010);
        table("mux(b,b,a)", 0b10001000);
    }

    private static void table(String operation, int due) {
        ScanTester x = Check.reading("in a,b,c;ff;d=" + operation + ";out d;");
        int got = 0;
        for (int p = 0; p < 8; p++) {
            got |= x.answer(p, NONE) << p;
        }
        Check.same(operation, got, due);
    }

    /** Outputs stand lowest, as they are named, then the nexts as the flip-flops are named. */
    private static void places() {
        ScanTester x = Check.reading("in a,b;ff p,q;q<-a;p<-b;out q,p,a;");
        Check.same("pattern a", x.answer(1, NONE), 4 | 16);
        Check.same("pattern b", x.answer(2, NONE), 8);
        Check.same("pattern p", x.answer(4, NONE), 2);
        Check.same("pattern q", x.answer(8, NONE), 1);
        ScanTester most = Check.reading("in;ff a,b,c,d,e,f,g,h,i,j;a<-j;b<-a;c<-b;d<-c;e<-d;f<-e;g<-f;h<-g;i<-h;j<-i;"
            + "out a,b,c,d,e,f,g,h;");
        Check.same("eighteen bits", most.answer(1023, NONE), (1 << 18) - 1);
        Check.same("a goes to b", most.answer(1, NONE), 1 | 1 << 9);
        Check.same("j goes to a", most.answer(512, NONE), 1 << 8);
    }

    private static void stuck() {
        ScanTester x = Check.reading("in a,b;ff p;c=and(a,b);p<-c;out c,a,p;");
        Check.same("good", x.answer(3, NONE), 0b1011);
        Check.same("a stuck at 0", x.answer(3, 0), 0b0000);
        Check.same("a stuck at 1", x.answer(2, 1), 0b1011);
        Check.same("c stuck at 0", x.answer(3, 6), 0b0010);
        Check.same("c stuck at 1", x.answer(0, 7), 0b1001);
        Check.same("p stuck at 1", x.answer(0, 5), 0b0100);
        Check.same("p stuck at 0", x.answer(4, 4), 0b0000);
    }

    /** Without a next a flip-flop keeps what it has, and that is not what its net is stuck at. */
    private static void keepers() {
        ScanTester x = Check.reading("in;ff p,q;q<-q;out p,q;");
        for (int pattern = 0; pattern < 4; pattern++) {
            Check.same("good " + pattern, x.answer(pattern, NONE), pattern | pattern << 2);
        }
        Check.same("p stuck at 1 keeps 0", x.answer(0, 1), 0b0001);
        Check.same("p stuck at 0 keeps 1", x.answer(1, 0), 0b0100);
        Check.same("q looks at itself", x.answer(0, 3), 0b1010);
        Check.same("q looks at itself", x.answer(2, 2), 0b0000);
        ScanTester alone = Check.reading("in;ff p;out;");
        Check.same("none is testable", alone.told(3), 0);
        Check.same("kept", alone.answer(1, 0), 1);
    }

    private static void wrongInputs() {
        ScanTester x = Check.reading(Check.PLAIN);
        Check.argument("answer(32)", () -> x.answer(32, NONE));
        Check.argument("answer(-1)", () -> x.answer(-1, NONE));
        Check.argument("answer(least)", () -> x.answer(Integer.MIN_VALUE, NONE));
        Check.argument("both wrong", () -> x.answer(32, 20));
        Check.index("f = 20", () -> x.answer(31, 20));
        Check.index("f = -2", () -> x.answer(31, -2));
        Check.index("f = most", () -> x.answer(0, Integer.MAX_VALUE));
        Check.same("the last f", x.answer(31, 19), x.answer(31, 19));
        ScanTester none = new ScanTester();
        Check.argument("no source", () -> none.answer(1, NONE));
        Check.index("no net", () -> none.answer(0, 0));
    }
}
