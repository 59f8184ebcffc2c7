/** The faults of a text, by their sentences in "Terms". */
public final class FaultTest {
    /** A text cut into its words, names and marks. */
    private static final String[] PIECES = {
        "in ", "a", ",", "b", ";", "ff ", "p", ",", "q", ";", "c", "=", "nand", "(", "a", ",", "b", ",", "p", ",", "q", ")",
        ";", "p", "<", "-", "c", ";", "d", "=", "mux", "(", "q", ",", "a", ",", "b", ")", ";", "e", "=", "not", "(", "d",
        ")", ";", "out ", "c", ",", "d", ";"
    };

    public static void main(String[] args) {
        firstFromTheBeginning();
        leastNumber();
        byteThatCannotCome();
        firstOfAWord();
        tapeEnd();
        notGivenYet();
        noFlipFlop();
        givenAlready();
        hasItsNext();
        noOperation();
        eleventhSource();
        sixtyFirstNet();
        ninthOutput();
        fifthName();
        Check.end();
    }

    private static void firstFromTheBeginning() {
        Check.sentence("Terms", "FAULTS of a text, the first from the beginning on");
        Check.bad(1, "in ^?;ff;b=nott(c);out a,a,a,a,a,a,a,a,a;");
        Check.bad(3, "in a,^a;ff;b=and(c,a);?");
        Check.bad(2, "in a;ff;b=and(^c,a,a,a,a);a=not(a);?");
        Check.bad(3, "in a;ff;b=^nott(c,?);?");
        Check.bad(4, "in a;ff;b=and(a,a,a,a,^a,?,c);?");
        Check.bad(4, "in a;ff;out a,a,a,a,a,a,a,a,^a,b,?");
        // The name stands before the mark behind it, and its fault does too.
        Check.bad(3, "in a;ff;^a=?");
        Check.bad(3, "in a;ff;^a=nott(c);out;");
        Check.bad(2, "in a;ff;^a<?");
        Check.bad(2, "in a;ff;^c<");
        Check.bad(3, "in a;ff p;p<-a;^p<?");
        Check.bad(3, "in a,^a?");
        Check.bad(2, "in a;ff;out ^b?");
        Check.bad(2, "in a;ff;b=not(^c?");
        Check.bad(3, "in a;ff;b=^nott?");
        // Without = or < behind it a name at a line's beginning has no fault of its own.
        Check.bad(1, "in a;ff;a^?");
        Check.bad(1, "in a;ff;c^?");
        Check.bad(1, "in a;ff;c ^d=not(a);out;");
    }

    private static void leastNumber() {
        Check.sentence("Terms", "at one place the least number");
        Check.bad(1, "in a,b,c,d,e,f,g,h,i,j,^?;ff;out;");
        Check.bad(1, "in a,b,c,d,e,f,g,h,i,j,^ab;ff;out;");
        Check.bad(3, "in a,b,c,d,e,f,g,h,i,j,^a;ff;out;");
        Check.bad(3, "in a,b,c,d,e,f,g,h,i,j;ff ^j;out;");
        Check.bad(1, "in a;ff;b=and(a,a,a,a,^?);out;");
        Check.bad(1, "in a;ff;b=and(a,a,a,a,^);out;");
        Check.bad(1, "in a;ff;b=and(a,a,a,a,^aa);out;");
        Check.bad(2, "in a;ff;b=and(a,a,a,a,^c);out;");
        Check.bad(2, "in a;ff;b=nor(a,a,a,a,^b);out;");
        Check.bad(2, "in a;ff;out a,a,a,a,a,a,a,a,^b;");
        Check.bad(1, "in a;ff;out a,a,a,a,a,a,a,a,^;");
        String most = "in a;ff;" + TextTest.inverters(59);
        Check.badAt(3, most.length(), most + "a=not(a);out;");
        Check.badAt(3, most.length(), most + "p8=not(a);out;");
        Check.badAt(2, most.length(), most + "z<-a;out;");
    }

    private static void byteThatCannotCome() {
        Check.sentence("Terms", "1 a byte that can't come there (at it");
        for (int k = 0; k < PIECES.length; k++) {
            for (char other : new char[] {'?', '!', 'A', 127, 128, 255}) {
                Check.badAt(1, joined(0, k).length(), joined(0, k) + other + joined(k, PIECES.length));
            }
        }
        // Each mark where another is due.
        Check.bad(1, "in a^=b;ff;out;");
        Check.bad(1, "in a;ff;b^-a;out;");
        Check.bad(1, "in a;ff;b=not^;out;");
        Check.bad(1, "in a;ff;b=not(a^(;out;");
        Check.bad(1, "in a;ff;b=and(a^;a);out;");
        Check.bad(1, "in a;ff;b=and(a,a^;);out;");
        Check.bad(1, "in a;ff p;p<^<a;out;");
        Check.bad(1, "in a;ff p;p<-^-a;out;");
        Check.bad(1, "in a;ff;out a^);");
        Check.bad(1, "in a;ff;out a;^,");
        Check.bad(1, "in a;ff;b=^(a);out;");
        Check.bad(1, "in a;ff;b=^1(a);out;");
    }

    private static String joined(int from, int to) {
        StringBuilder text = new StringBuilder();
        for (int k = from; k < to; k++) {
            text.append(PIECES[k]);
        }
        return text.toString();
    }

    private static void firstOfAWord() {
        Check.sentence("Terms", "(at it, a word's first one");
        Check.bad(1, "^inn;ff;out;");
        Check.bad(1, " ^i;ff;out;");
        Check.bad(1, "^an;ff;out;");
        Check.bad(1, "^im;ff;out;");
        Check.bad(1, "in;^of;out;");
        Check.bad(1, "in;^fg;out;");
        Check.bad(1, "in;ff;^but;");
        Check.bad(1, "in;ff;^ott;");
        Check.bad(1, "in;ff;^ous;");
        Check.bad(1, "^in1;ff;out;");
        Check.bad(1, "in;^fff;out;");
        Check.bad(1, "in;  ^f;out;");
        Check.bad(1, "in;ff;^ou;");
        Check.bad(1, "in;ff; ^outt;");
        Check.bad(1, "in;ff;^out0;");
        Check.bad(1, "in ^ab;ff;out;");
        Check.bad(1, "in a, ^a12;ff;out;");
        Check.bad(1, "in a ^abc;ff;out;");
        Check.bad(1, "in a;ff;b=not ^abc(a);out;");
        Check.bad(1, "in a;ff;b=not(^not(a));out;");
        Check.bad(1, "in a;ff;out ^out;");
    }

    private static void tapeEnd() {
        Check.sentence("Terms", "or the tape's end)");
        for (int k = 0; k < PIECES.length; k++) {
            String text = joined(0, k);
            Check.badAt(1, text.length(), text);
            Check.badAt(1, text.length() + 3, text + " \n ");
        }
        Check.good(joined(0, PIECES.length), 7);
        // Also where the 900 bytes end, and where a wiped tape had the rest.
        for (int k = 0; k < PIECES.length; k++) {
            String text = joined(0, k);
            Check.badAt(1, 900, " ".repeat(900 - text.length()) + text);
            ScanTester x = Check.reading(joined(0, PIECES.length));
            x.wipe();
            Check.feed(x, text);
            x.read();
            Check.same("fault of " + text, x.fault(), 1);
            Check.same("place of " + text, x.place(), text.length());
        }
        // A word that is cut off is a word that can't come.
        Check.bad(1, "^i");
        Check.bad(1, "in;^f");
        Check.bad(1, "in;ff;^ou");
        Check.bad(1, "in;ff;o^");
        Check.bad(1, "in a;ff;b=and(a,a,a,a,^");
        Check.bad(1, "in a,b,c,d,e,f,g,h,i,j,^");
        Check.bad(1, "in a;ff;out a,a,a,a,a,a,a,a,^");
        Check.bad(3, "in a;ff;b=^an");
    }

    private static void notGivenYet() {
        Check.sentence("Terms", "2 a name that is not given yet");
        Check.bad(2, "in a;ff;b=not(^c);out;");
        Check.bad(2, "in a;ff;b=not(^b);out;");
        Check.bad(2, "in a;ff;b=and(a,a,a,^a1);out;");
        Check.bad(2, "in a;ff;b=mux(a,^b,a);out;");
        Check.bad(2, "in a;ff p;p<-^b;out;");
        Check.bad(2, "in a;ff;out ^z9;");
        Check.bad(2, "in a;ff;out a,^b;");
        Check.bad(2, "in;ff;b=not(^a);out;");
        Check.bad(2, "in a;ff;^c<-a;out;");
        // What an earlier text gave is not given here.
        ScanTester x = Check.reading("in a,b;ff c;d=not(a);out d;");
        x.wipe();
        Check.feed(x, "in a;ff;out b;");
        x.read();
        Check.same("fault", x.fault(), 2);
        Check.same("place", x.place(), 12);
    }

    private static void noFlipFlop() {
        Check.sentence("Terms", "or, before <, is no flip-flop");
        Check.bad(2, "in a;ff p;^a<-p;out;");
        Check.bad(2, "in a,b;ff p;^b<-p;out;");
        Check.bad(2, "in a;ff p;b=not(a);^b<-p;out;");
        Check.bad(2, "in a;ff p;^c<-p;out;");
        Check.bad(2, "in a;ff;^a<-a;out;");
        Check.good("in a;ff p,q;p<-a;q<-a;out;", 3);
    }

    private static void givenAlready() {
        Check.sentence("Terms", "3 a name that is given already (before =, and in in and ff)");
        Check.bad(3, "in a,^a;ff;out;");
        Check.bad(3, "in a,b,c,^b;ff;out;");
        Check.bad(3, "in a;ff ^a;out;");
        Check.bad(3, "in;ff p,^p;out;");
        Check.bad(3, "in a;ff p;^a=not(a);out;");
        Check.bad(3, "in a;ff p;^p=not(a);out;");
        Check.bad(3, "in a;ff p;p<-a;^p=not(a);out;");
        Check.bad(3, "in a;ff p;b=not(a);^b=buf(a);out;");
        // Anywhere else a name may come again.
        Check.good("in a;ff p;b=and(a,a,a,a);p<-a;out a,a;", 3);
    }

    private static void hasItsNext() {
        Check.sentence("Terms", "or has its next");
        Check.bad(3, "in a;ff p;p<-a;^p<-a;out;");
        Check.bad(3, "in a;ff p,q;p<-a;q<-p;^p<-q;out;");
        Check.bad(3, "in a;ff p;p<-p;^p<-a;out;");
        Check.good("in a;ff p,q;q<-p;p<-q;out;", 3);
    }

    private static void noOperation() {
        Check.sentence("Terms", "an operation that is none");
        for (String none : new String[] {"a", "b", "an", "andd", "nandd", "nan", "o", "ori", "xo", "xnor", "xorr", "nots", "no",
            "bu", "buff", "mu", "muxx", "in", "ff", "out", "norx", "and2", "a1", "z"}) {
            Check.badAt(3, 10, "in a;ff;b=" + none + "(a,a);out;");
            Check.badAt(3, 12, "in a;ff;b=  " + none);
        }
    }

    private static void eleventhSource() {
        Check.sentence("Terms", "4 the 11th source");
        Check.bad(4, "in a,b,c,d,e,f,g,h,i,j,^k;ff;out;");
        Check.bad(4, "in a,b,c,d,e,f,g,h,i,j, ^k9,l,m;ff;out;");
        Check.bad(4, "in a,b,c,d,e,f,g,h,i,j;ff ^k;out;");
        Check.bad(4, "in a;ff b,c,d,e,f,g,h,i,j,^k;out;");
        Check.bad(4, "in;ff a,b,c,d,e,f,g,h,i,j,^k;out;");
        Check.bad(4, "in a,b,c,d,e,f,g,h,i,j,^k?");
        Check.good("in a,b,c,d,e,f,g,h,i;ff j;k=not(a);out k;", 11);
    }

    private static void sixtyFirstNet() {
        Check.sentence("Terms", "61st net");
        String most = "in a;ff p;" + TextTest.inverters(58);
        Check.good(most + "out;", 60);
        Check.good(most + "p<-a;out p7;", 60);
        Check.badAt(4, most.length(), most + "z=not(a);out;");
        Check.badAt(4, most.length() + 1, most + " z9 =?");
        Check.badAt(4, most.length(), most + "z=nott(c);out;");
        // Before another mark it would give no net.
        Check.badAt(1, most.length() + 1, most + "z?");
        Check.badAt(2, most.length(), most + "z<-a;out;");
    }

    private static void ninthOutput() {
        Check.sentence("Terms", "ninth output (its name)");
        Check.bad(4, "in a;ff;out a,a,a,a,a,a,a,a,^a;");
        Check.bad(4, "in a,b9;ff;out a,a,a,a,a,a,a,a, ^b9 ;");
        Check.bad(4, "in a;ff;out a,a,a,a,a,a,a,a,^a,a,a;");
        Check.bad(4, "in a;ff;out a,a,a,a,a,a,a,a,^a?");
        Check.bad(1, "in a;ff;out a,a,a,a,a,a,a,a^?");
    }

    private static void fifthName() {
        Check.sentence("Terms", "the fifth name of and .. nor");
        for (String operation : new String[] {"and", "or", "xor", "nand", "nor"}) {
            Check.bad(4, "in a,b;ff;c=" + operation + "(a,b,a,b,^a);out;");
            Check.bad(4, "in a,b;ff;c=" + operation + "(a,b,a,b, ^b ,a);out;");
            Check.bad(4, "in a,b;ff;c=" + operation + "(a,b,a,b,^a?");
            Check.bad(1, "in a,b;ff;c=" + operation + "(a,b,a,b^?");
        }
        Check.bad(1, "in a;ff;b=mux(a,a,a^,a,a);out;");
        Check.bad(1, "in a;ff;b=not(a^,a,a,a,a);out;");
        Check.bad(1, "in a;ff;b=buf(a^,a,a,a,a);out;");
    }
}
