/** Promises 4 to 6: read, fault, place. */
public final class ReadTest {
    public static void main(String[] args) {
        circuits();
        canNotCome();
        tapeEnds();
        notGiven();
        givenAlready();
        tooMany();
        leastNumberAtOnePlace();
        refusedTapeLeavesAll();
        goodReadBeginsAnew();
        Check.end();
    }

    private static void circuits() {
        good("in;ff;out;", 0, 0, 0, 0);
        good("in a;ff;out;", 1, 1, 0, 0);
        good("in;ff a;out a,a;", 1, 0, 1, 2);
        good(Check.PLAIN, 10, 3, 2, 3);
        good("\0in\t\n a9 ,\1b ; ff c0;c1 = nand ( a9 , b,c0 ,a9 ) ;c0 < \37 - c1\r;out c1 ;  ", 4, 2, 1, 1);
        good("in a,b,c;ff;d=and(a,b);e=or(a,b,c);f=xor(a,b,c,d);g=nand(a,b);h=nor(a,a);"
            + "i=not(a);j=buf(a);k=mux(a,b,c);out k;", 11, 3, 0, 1);
        good("in o,i,f;ff;u=not(o);out o,u,i,f,o,o,o,o;", 4, 3, 0, 8);
        good("in a;ff b;b<-b;out b;", 2, 1, 1, 1);
        good("in a,a0,a9,b,c,d,e,f;ff g,h;out;", 10, 8, 2, 0);
    }

    private static void good(String text, int nets, int inputs, int flops, int outputs) {
        ScanTester x = new ScanTester();
        Check.feed(x, text);
        Check.same("read of " + text, x.read(), nets);
        Check.same("fault of " + text, x.fault(), 0);
        Check.same("place of " + text, x.place(), ScanTester.NONE);
        Check.same("inputs of " + text, x.told(0), inputs);
        Check.same("flip-flops of " + text, x.told(1), flops);
        Check.same("outputs of " + text, x.told(2), outputs);
        Check.same("read again of " + text, x.read(), nets);
        Check.same("the tape stays: " + text, x.wipe(), text.length());
    }

    /** The mark ^ stands before the place that is due. */
    private static void bad(int number, String marked) {
        int place = marked.indexOf('^');
        String text = marked.substring(0, place) + marked.substring(place + 1);
        ScanTester x = new ScanTester();
        Check.feed(x, text);
        Check.same("read of " + marked, x.read(), ScanTester.NONE);
        Check.same("fault of " + marked, x.fault(), number);
        Check.same("place of " + marked, x.place(), place);
        Check.same("told behind " + marked, x.told(5), 18);
    }

    private static void canNotCome() {
        bad(1, "^i n a;ff;out;");
        bad(1, "^inn a;ff;out;");
        bad(1, "^ina;ff;out;");
        bad(1, "^IN a;ff;out;");
        bad(1, " ^ff;out;");
        bad(1, "in ;^;ff;out;");
        bad(1, "in ^,a;ff;out;");
        bad(1, "in a,^;ff;out;");
        bad(1, "in a ^b;ff;out;");
        bad(1, "in ^a12;ff;out;");
        bad(1, "in ^ab;ff;out;");
        bad(1, "in ^1a;ff;out;");
        bad(1, "in ^1;ff;out;");
        bad(1, "in a ^1;ff;out;");
        bad(1, "in a^B;ff;out;");
        bad(1, "in a;^f f;out;");
        bad(1, "in a;^out;");
        bad(1, "in a;ff;^in;out;");
        bad(1, "in a;ff;^ou;");
        bad(1, "in a;ff;^outt;");
        bad(1, "in a;ff;^out1;");
        bad(1, "in a;ff;^;out;");
        bad(1, "in a;ff;x^;out;");
        bad(1, "in a;ff;a ^(a);out;");
        bad(1, "in a;ff;b=^(a);out;");
        bad(1, "in a;ff;b=^;out;");
        bad(1, "in a;ff;b=not ^a;out;");
        bad(1, "in a;ff;b=not(^);out;");
        bad(1, "in a;ff;b=not(a^,a);out;");
        bad(1, "in a;ff;b=buf(a^,a);out;");
        bad(1, "in a;ff;b=and(a^);out;");
        bad(1, "in a;ff;b=nor(a^);out;");
        bad(1, "in a;ff;b=mux(a^);out;");
        bad(1, "in a;ff;b=mux(a,a^);out;");
        bad(1, "in a;ff;b=mux(a,a,a^,a);out;");
        bad(1, "in a;ff;b=and(a ^a);out;");
        bad(1, "in a;ff;b=and(a,a)^out;");
        bad(1, "in a;ff b;b<^a;out;");
        bad(1, "in a;ff b;b<^<-a;out;");
        bad(1, "in a;ff b;b<-^-a;out;");
        bad(1, "in a;ff b;b<-^ab;out;");
        bad(1, "in a;ff b;b<-a^,a;out;");
        bad(1, "in a;ff;out^(a);");
        bad(1, "in a;ff;out a,^;");
        bad(1, "in a;ff;out a;^b=not(a);");
        bad(1, "in a;ff;out a; ^;");
        bad(1, "in a;ff;out a;^\377");
        bad(1, "in a;ff;^!out a;");
        bad(1, "in a;ff;^\200out a;");
    }

    private static void tapeEnds() {
        String[] beginnings = {
            "", "  ", "in", "in ", "in a", "in a,", "in;", "in a;ff", "in a;ff b,", "in a;ff;", "in a;ff;b",
            "in a;ff;b=", "in a;ff;b=and", "in a;ff;b=and(", "in a;ff;b=and(a", "in a;ff;b=and(a,",
            "in a;ff;b=and(a,a)", "in a;ff b;b<", "in a;ff b;b<-", "in a;ff b;b<-a", "in a;ff;out", "in a;ff;out a",
            "in a;ff;out a,", "in a;ff;b=and(a,a,a,a,"
        };
        for (String text : beginnings) {
            bad(1, text + "^");
        }
        bad(1, "^i");
        bad(1, "in a;ff;^ou");
    }

    private static void notGiven() {
        bad(2, "in a;ff;b=and(a,^c);out;");
        bad(2, "in a;ff;b=not(^b);out;");
        bad(2, "in a;ff;b=not(^c);c=not(a);out;");
        bad(2, "in a;ff;b=not(^a1);out;");
        bad(2, "in a1;ff;b=not(^a);out;");
        bad(2, "in a;ff b;b<-^c;out;");
        bad(2, "in a;ff b;b<-^c;c=not(a);out;");
        bad(2, "in a;ff;out ^b;");
        bad(2, "in a;ff;out a,^b,?");
        bad(2, "in a;ff b;^a<-b;out;");
        bad(2, "in a;ff b;^c<-b;out;");
        bad(2, "in a;ff b;c=not(a);^c<-b;out;");
        bad(2, "in a;ff b;^a<?");
        bad(2, "in a;ff b;^c<");
    }

    private static void givenAlready() {
        bad(3, "in a,^a;ff;out;");
        bad(3, "in a;ff ^a;out;");
        bad(3, "in a;ff b,^b;out;");
        bad(3, "in a;ff;^a=not(a);out;");
        bad(3, "in a;ff b;^b=not(a);out;");
        bad(3, "in a;ff;b=not(a);^b=not(a);out;");
        bad(3, "in a;ff;^a=?");
        bad(3, "in a;ff b;b<-a;^b<-a;out;");
        bad(3, "in a;ff b;b<-a;^b<?");
        bad(3, "in a;ff;b=^nott(a);out;");
        bad(3, "in a;ff;b=^no(a);out;");
        bad(3, "in a;ff;b=^an");
        bad(3, "in a;ff;b=^nandx(a,a);out;");
        bad(3, "in a;ff;b=^and2(a,a);out;");
        bad(3, "in a;ff;b=^a;out;");
        bad(3, "in a;ff;b=^xnor(a,a);out;");
        bad(3, "in a;ff;b=^mu x(a,a,a);out;");
    }

    private static void tooMany() {
        bad(4, "in a,b,c,d,e,f,g,h,i,j,^k;ff;out;");
        bad(4, "in a,b,c,d,e,f,g,h,i,j;ff ^k;out;");
        bad(4, "in a;ff b,c,d,e,f,g,h,i,j,^k;out;");
        bad(4, "in a;ff;out a,a,a,a,a,a,a,a,^a;");
        for (String operation : new String[] {"and", "or", "xor", "nand", "nor"}) {
            bad(4, "in a;ff;b=" + operation + "(a,a,a,a,^a);out;");
        }
        String most = "in a;ff;" + inverters(59);
        good(most + "out;", 60, 1, 0, 0);
        bad(4, most + "^z=not(a);out;");
        bad(4, most + "^z=?");
        bad(1, most + "z^?");
    }

    private static String inverters(int count) {
        StringBuilder text = new StringBuilder();
        for (int k = 0; k < count; k++) {
            text.append((char) ('b' + k / 10)).append(k % 10).append("=not(a);");
        }
        return text.toString();
    }

    private static void leastNumberAtOnePlace() {
        bad(1, "in a,b,c,d,e,f,g,h,i,j,^?;ff;out;");
        bad(3, "in a,b,c,d,e,f,g,h,i,j,^a;ff;out;");
        bad(1, "in a;ff;b=and(a,a,a,a,^?);out;");
        bad(2, "in a;ff;b=and(a,a,a,a,^c);out;");
        bad(2, "in a;ff;out a,a,a,a,a,a,a,a,^b;");
        bad(1, "in a;ff;out a,a,a,a,a,a,a,a,^;");
        bad(3, "in a;ff;" + inverters(59) + "^a=not(a);out;");
    }

    private static void refusedTapeLeavesAll() {
        ScanTester x = Check.reading(Check.PLAIN);
        x.chip(18);
        x.clock(false, true, 5);
        x.clock(false, true, 5);
        int held = x.chipHas(2);
        int told = x.told(4);
        int seen = x.answer(7, 3);
        x.wipe();
        Check.feed(x, "in a;ff b;c=not(a);b<-c;out c,?;");
        Check.same("read", x.read(), ScanTester.NONE);
        Check.same("fault", x.fault(), 1);
        Check.same("inputs stay", x.told(0), 3);
        Check.same("tests stay", x.told(4), told);
        Check.same("answers stay", x.answer(7, 3), seen);
        Check.same("the state stays", x.chipHas(0), 1);
        Check.same("the flip-flops stay", x.chipHas(2), held);
        ScanTester same = Check.reading(Check.PLAIN);
        same.chip(18);
        same.clock(false, true, 5);
        same.clock(false, true, 5);
        Check.same("the fault in the chip stays", x.clock(true, false, 7), same.clock(true, false, 7));
    }

    private static void goodReadBeginsAnew() {
        ScanTester x = new ScanTester();
        Check.feed(x, "in a;ff b;b<-a;out b;");
        x.read();
        Check.same("tests of the first", x.told(4) > 0 ? 1 : 0, 1);
        x.chip(1);
        x.clock(false, true, 0);
        x.clock(false, true, 0);
        Check.same("before", x.chipHas(2), 1);
        x.read();
        Check.same("state", x.chipHas(0), 0);
        Check.same("flip-flops", x.chipHas(2), 0);
        x.clock(false, true, 0);
        x.clock(false, true, 0);
        Check.same("a good chip", x.chipHas(2), 0);
        x.wipe();
        Check.feed(x, "in;ff;out;");
        x.read();
        Check.same("tests of nothing", x.told(4), 0);
        Check.same("rows of nothing", x.told(5), 18);
        Check.feed(x, "?");
        x.read();
        Check.same("fault", x.fault(), 1);
        Check.same("place", x.place(), 10);
        x.wipe();
        Check.feed(x, "in;ff;out;");
        x.read();
        Check.same("fault is gone", x.fault(), 0);
        Check.same("place is gone", x.place(), ScanTester.NONE);
    }
}
