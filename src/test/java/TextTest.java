/** What a circuit's text may be: the sentences of "Terms" on its parts, names, operations and limits. */
public final class TextTest {
    private static final int NONE = ScanTester.NONE;
    private static final String[] MANY = {"and", "or", "xor", "nand", "nor"};

    public static void main(String[] args) {
        sources();
        lines();
        outputs();
        commas();
        names();
        everyNameIsItsOwn();
        twoToFour();
        one();
        three();
        tables();
        givenOnce();
        usedBehindThat();
        nexts();
        numbers();
        sourceNumbers();
        tenSources();
        sixtyNets();
        eightOutputs();
        Check.end();
    }

    private static void told(String text, int inputs, int flops, int outputs) {
        ScanTester x = Check.reading(text);
        Check.same("inputs of " + text, x.told(0), inputs);
        Check.same("flip-flops of " + text, x.told(1), flops);
        Check.same("outputs of " + text, x.told(2), outputs);
    }

    private static void sources() {
        Check.sentence("Terms", "in, perhaps names, ;  then ff, perhaps names, ;");
        Check.good("in;ff;out;", 0);
        told("in;ff;out;", 0, 0, 0);
        told("in a;ff;out;", 1, 0, 0);
        told("in;ff a;out;", 0, 1, 0);
        told("in a,b;ff c,d,e;out;", 2, 3, 0);
        Check.bad(1, "^ff;in;out;");
        Check.bad(1, "in;^in;ff;out;");
        Check.bad(1, "in;ff;^ff;out;");
        Check.bad(1, "in;^out;");
        Check.bad(1, "in^(a);ff;out;");
        Check.bad(1, "^ina;ff;out;");
        Check.bad(1, "in;^ffa;out;");
        Check.bad(1, "in;ff;^outa;");
    }

    private static void lines() {
        Check.sentence("Terms", "then LINES: a name, =, an operation, ( names ) ; or a name of a flip-flop, < and -, a name, ;");
        Check.good("in a;ff;b=not(a);out;", 2);
        Check.good("in a;ff p;p<-a;out;", 2);
        Check.good("in a;ff p,q;q<-p;b=not(a);p<-b;c=and(b,q);out;", 5);
        Check.good("in a;ff p;p<-p;out;", 2);
        Check.bad(1, "in a;ff;b^:not(a);out;");
        Check.bad(1, "in a;ff;b=^=not(a);out;");
        Check.bad(1, "in a;ff;b=not ^a;out;");
        Check.bad(1, "in a;ff;b=not(a^;out;");
        Check.bad(1, "in a;ff;b=not(a)^out;");
        Check.bad(1, "in a;ff;b=not(a)^,c=not(a);out;");
        Check.bad(1, "in a;ff p;p^-a;out;");
        Check.bad(1, "in a;ff p;p<^a;out;");
        Check.bad(1, "in a;ff p;p<-^;out;");
        Check.bad(1, "in a;ff p;p<-^(a);out;");
        Check.bad(1, "in a;ff p;p<-a^(a);out;");
        Check.bad(1, "in a;ff p;p<-a^,p<-a;out;");
        Check.bad(1, "in a;ff p;p<-^not(a);out;");
        Check.bad(1, "in a;ff;^;out;");
    }

    private static void outputs() {
        Check.sentence("Terms", "and in the end: out, perhaps names, ;");
        told("in a;ff b;out;", 1, 1, 0);
        told("in a;ff b;out b;", 1, 1, 1);
        told("in a;ff b;out b,b,a;", 1, 1, 3);
        Check.bad(1, "in a;ff;out a;^out a;");
        Check.bad(1, "in a;ff;out a;^b=not(a);");
        Check.bad(1, "in a;ff;out a;^a");
        Check.bad(1, "in a;ff;out a;^;");
        Check.bad(1, "in a;ff;out a ; ^\377");
        Check.bad(1, "in a;ff;out a^=not(a);");
    }

    private static void commas() {
        Check.sentence("Terms", "(commas between names)");
        for (String list : new String[] {"in %;ff;out;", "in;ff %;out;", "in a,b;ff;out %;", "in a,b;ff;c=and(%);out;"}) {
            int at = list.indexOf('%');
            Check.good(list.replace("%", "a,b"), list.contains("and") ? 3 : 2);
            Check.badAt(1, at + 2, list.replace("%", "a b"));
            Check.badAt(1, at + 1, list.replace("%", "a<b"));
            Check.badAt(1, at, list.replace("%", ",a,b"));
            Check.badAt(1, at + 2, list.replace("%", "a,,b"));
            Check.badAt(1, at + 4, list.replace("%", "a,b,"));
            Check.badAt(1, at + 1, list.replace("%", "a.b"));
        }
    }

    private static void names() {
        Check.sentence("Terms", "NAMES: a letter a .. z, perhaps a figure behind it (no letter or figure beside).");
        for (char letter = 'a'; letter <= 'z'; letter++) {
            Check.good("in " + letter + ";ff;out " + letter + ";", 1);
            Check.good("in " + letter + "0;ff;out " + letter + "0;", 1);
            Check.good("in " + letter + "9;ff;out " + letter + "9;", 1);
        }
        for (String none : new String[] {"ab", "a12", "a1b", "ab1", "1", "1a", "12", "A", "`", "{", "/", ":", "@", "_", "in", "out"}) {
            Check.badAt(1, 3, "in " + none + ";ff;out;");
            Check.badAt(1, 6, "in;ff " + none + ";out;");
            Check.badAt(1, 12, "in a;ff;out " + none + ";");
            Check.badAt(1, 14, "in a;ff;b=not(" + none + ");out;");
            Check.badAt(1, 13, "in a;ff p;p<-" + none + ";out;");
        }
        for (String none : new String[] {"ab", "a12", "1", "A", "in", "`", "{"}) {
            Check.badAt(1, 8, "in a;ff;" + none + "=not(a);out;");
            Check.badAt(1, 8, "in a;ff;" + none + "<-a;out;");
        }
        // What is no figure and no letter is not beside it, but behind it.
        for (char other : new char[] {'/', ':', 'A', 'Z', '`', '{', '_', 255}) {
            Check.badAt(1, 4, "in a" + other + ";ff;out;");
            Check.badAt(1, 5, "in a1" + other + ";ff;out;");
        }
    }

    private static void everyNameIsItsOwn() {
        Check.sentence("Terms", "a letter a .. z, perhaps a figure behind it");
        for (char letter = 'a'; letter <= 'z'; letter++) {
            StringBuilder text = new StringBuilder("in " + letter);
            for (int figure = 0; figure < 9; figure++) {
                text.append(",").append(letter).append(figure);
            }
            Check.good(text + ";ff;" + letter + "9=not(" + letter + ");out " + letter + "9;", 11);
        }
        StringBuilder letters = new StringBuilder("in a,a9;ff;");
        for (char letter = 'b'; letter <= 'z'; letter++) {
            letters.append(letter).append("=not(").append((char) (letter - 1)).append("9);");
            letters.append(letter).append("9=not(").append((char) (letter - 1)).append(");");
        }
        Check.good(letters + "out z,z9;", 52);
        Check.bad(2, "in a1;ff;out ^a;");
        Check.bad(2, "in a;ff;out ^a0;");
        Check.bad(2, "in a9;ff;out ^b;");
        Check.bad(2, "in z9;ff;out ^z8;");
    }

    private static String line(String operation, int names) {
        return "in a;ff;b=" + operation + "(" + "a,".repeat(names - 1) + "a);out b;";
    }

    private static void twoToFour() {
        Check.sentence("Terms", "and, or, xor, nand, nor with 2 to 4 names");
        for (String operation : MANY) {
            int first = 11 + operation.length();
            Check.badAt(1, first, "in a;ff;b=" + operation + "();out b;");
            Check.badAt(1, first + 1, line(operation, 1));
            Check.good(line(operation, 2), 2);
            Check.good(line(operation, 3), 2);
            Check.good(line(operation, 4), 2);
            Check.badAt(4, first + 8, line(operation, 5));
        }
    }

    private static void one() {
        Check.sentence("Terms", "not, buf with one");
        for (String operation : new String[] {"not", "buf"}) {
            Check.badAt(1, 14, "in a;ff;b=" + operation + "();out b;");
            Check.good(line(operation, 1), 2);
            Check.badAt(1, 15, line(operation, 2));
        }
    }

    private static void three() {
        Check.sentence("Terms", "mux with three (s, a, b: a if s is 0, else b)");
        Check.badAt(1, 14, "in a;ff;b=mux();out b;");
        Check.badAt(1, 15, line("mux", 1));
        Check.badAt(1, 17, line("mux", 2));
        Check.good(line("mux", 3), 2);
        Check.badAt(1, 19, line("mux", 4));
        ScanTester x = Check.reading("in s,a,b;ff;c=mux(s,a,b);out c;");
        for (int pattern = 0; pattern < 8; pattern++) {
            int due = (pattern & 1) == 0 ? pattern >> 1 & 1 : pattern >> 2 & 1;
            Check.same("mux of " + pattern, x.answer(pattern, NONE), due);
        }
    }

    private static void tables() {
        Check.sentence("Terms", "OPERATIONS, as words: and, or, xor, nand, nor with 2 to 4 names, not, buf with one");
        // How many of the names are 1 decides.
        for (int names = 2; names <= 4; names++) {
            for (int which = 0; which < MANY.length; which++) {
                ScanTester x = Check.reading("in a,b,c,d;ff;e=" + MANY[which] + "(" + "a,b,c,d".substring(0, 2 * names - 1)
                    + ");out e;");
                for (int pattern = 0; pattern < 16; pattern++) {
                    int ones = Integer.bitCount(pattern & (1 << names) - 1);
                    boolean[] due = {ones == names, ones > 0, ones % 2 == 1, ones < names, ones == 0};
                    Check.same(MANY[which] + " with " + names + " of " + pattern, x.answer(pattern, NONE), due[which] ? 1 : 0);
                }
            }
        }
        ScanTester y = Check.reading("in a;ff;b=not(a);c=buf(a);d=xor(a,a);e=xor(a,a,a);f=and(a,a);out b,c,d,e,f;");
        Check.same("of 0", y.answer(0, NONE), 0b00001);
        Check.same("of 1", y.answer(1, NONE), 0b11010);
        for (String none : new String[] {"nott", "no", "AND", "xnor", "in", "out", "ff", "a", "a1", "and2", "nan", "nands", "ands"}) {
            Check.badAt(none.equals("AND") ? 1 : 3, 10, "in a;ff;b=" + none + "(a,a);out;");
        }
    }

    private static void givenOnce() {
        Check.sentence("Terms", "Each name is given once: by in, ff, or a line with =");
        Check.bad(3, "in a,^a;ff;out;");
        Check.bad(3, "in a;ff ^a;out;");
        Check.bad(3, "in a;ff b,^b;out;");
        Check.bad(3, "in a;ff;^a=not(a);out;");
        Check.bad(3, "in a;ff b;^b=not(a);out;");
        Check.bad(3, "in a;ff;b=not(a);^b=not(a);out;");
        Check.bad(3, "in a1,b1;ff c1,^b1;out;");
        Check.good("in a;ff b;b<-a;out a,a,b;", 2);
    }

    private static void usedBehindThat() {
        Check.sentence("Terms", "and used behind that alone");
        Check.bad(2, "in a;ff;b=and(^b,a);out;");
        Check.bad(2, "in a;ff;b=and(a,^c);c=not(a);out;");
        Check.bad(2, "in a;ff p;p<-^b;b=not(a);out;");
        Check.bad(2, "in a;ff;out ^b;");
        Check.good("in a;ff;b=and(a,a);c=not(b);out c;", 3);
        Check.good("in a;ff p;b=not(a);p<-b;out p;", 3);
    }

    private static void nexts() {
        Check.sentence("Terms", "A flip-flop may have one line with < and -, its NEXT; without one it keeps what it has.");
        Check.bad(3, "in a;ff p;p<-a;^p<-p;out;");
        Check.bad(3, "in a;ff p,q;p<-a;q<-a;^q<-a;out;");
        ScanTester x = Check.reading("in a;ff p,q;p<-a;out;");
        for (int pattern = 0; pattern < 8; pattern++) {
            Check.same("nexts of " + pattern, x.answer(pattern, NONE), pattern & 1 | pattern >> 1 & 2);
        }
        // A text with a fault leaves no next behind.
        ScanTester y = new ScanTester();
        Check.feed(y, "in a;ff p;p<-a;");
        y.read();
        y.wipe();
        Check.feed(y, "in a;ff p;out;");
        y.read();
        Check.same("it keeps 1", y.answer(2, NONE), 1);
        Check.same("it keeps 0", y.answer(1, NONE), 0);
    }

    private static void numbers() {
        Check.sentence("Terms", "NETS are the names, numbered as they are given");
        // The line of p between them takes no number; every net is an output.
        ScanTester x = Check.reading("in z,a;ff p;y=and(z,a);p<-y;b=or(z,a);out z,a,p,y,b;");
        Check.same("nets", x.read(), 5);
        for (int net = 0; net < 5; net++) {
            Check.same("net " + net + " at 1", x.answer(0, 2 * net + 1) >> net & 1, 1);
            Check.same("net " + net + " at 0", x.answer(7, 2 * net) >> net & 1, 0);
        }
        Check.same("net 3 at 1", x.answer(0, 7), 0b101000);
        Check.same("net 4 at 1", x.answer(0, 9), 0b010000);
    }

    private static void sourceNumbers() {
        Check.sentence("Terms", "SOURCES: the I inputs 0, 1, .., then the F flip-flops");
        ScanTester x = Check.reading("in c,a;ff q,b;out c,a,q,b;");
        for (int k = 0; k < 4; k++) {
            Check.same("source " + k, x.answer(1 << k, NONE) & 15, 1 << k);
        }
    }

    private static void tenSources() {
        Check.sentence("Terms", "10 at most together.");
        String ten = "a,b,c,d,e,f,g,h,i,j";
        told("in " + ten + ";ff;out;", 10, 0, 0);
        told("in;ff " + ten + ";out;", 0, 10, 0);
        told("in a,b,c,d,e;ff f,g,h,i,j;out;", 5, 5, 0);
        Check.badAt(4, 23, "in " + ten + ",k;ff;out;");
        Check.badAt(4, 26, "in " + ten + ";ff k;out;");
        Check.badAt(4, 26, "in;ff " + ten + ",k;out;");
        Check.bad(4, "in a,b,c,d,e;ff f,g,h,i,j,^k;out;");
        Check.bad(4, "in a,b,c,d,e,f,g,h,i;ff j,^k;out;");
    }

    /** So many lines, each with a name of its own. */
    static String inverters(int count) {
        StringBuilder text = new StringBuilder();
        for (int k = 0; k < count; k++) {
            text.append((char) ('k' + k / 10)).append(k % 10).append("=not(a);");
        }
        return text.toString();
    }

    private static void sixtyNets() {
        Check.sentence("Terms", "Nets 60");
        String one = "in a;ff;" + inverters(59);
        Check.good(one + "out p8;", 60);
        Check.badAt(4, one.length(), one + "z=not(a);out;");
        String ten = "in a,b,c,d,e;ff f,g,h,i,j;" + inverters(50);
        Check.good(ten + "out o9;", 60);
        Check.good(ten + "f<-o9;j<-a;out o9;", 60);
        Check.badAt(4, ten.length(), ten + "z=not(a);out;");
        ScanTester x = Check.reading(one + "out p8;");
        Check.same("the last net at 1", x.answer(1, 119), 1);
        Check.same("the last net at 0", x.answer(0, 118), 0);
        Check.same("the last net", x.answer(0, NONE), 1);
        Check.index("no net 60", () -> x.answer(0, 120));
        // k0 is not a; the last net looks at more than one.
        ScanTester y = Check.reading("in a,b;ff;" + inverters(57) + "z=nand(b,k0);out z;");
        for (int pattern = 0; pattern < 4; pattern++) {
            Check.same("the last net of " + pattern, y.answer(pattern, NONE), pattern == 2 ? 0 : 1);
        }
    }

    private static void eightOutputs() {
        Check.sentence("Terms", "outputs 8 at most");
        told("in a;ff;out a,a,a,a,a,a,a,a;", 1, 0, 8);
        Check.bad(4, "in a;ff;out a,a,a,a,a,a,a,a,^a;");
        Check.bad(4, "in a,b;ff;out a,b,a,b,a,b,a,b,^b,a,a;");
        ScanTester x = Check.reading("in a,b,c,d,e,f,g,h;ff;out h,g,f,e,d,c,b,a;");
        Check.same("all are seen", x.answer(255, NONE), 255);
        Check.same("the eighth", x.answer(1, NONE), 128);
    }
}
