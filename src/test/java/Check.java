/** Counts what is as due and what is not, and feeds texts to a tape. */
final class Check {
    /** A call that should throw. */
    interface Call {
        void run();
    }

    /** Three inputs, two flip-flops, five lines with =, three outputs. */
    static final String PLAIN = "in a,b,c; ff p,q; d=and(a,b); e=or(d,c,p); f=xor(e,q); "
        + "g=nand(f,a); h=not(g); p<-f; q<-h; out f,h,q;";

    private static String sentence = "";
    private static int sentences = 0;
    private static int right = 0;
    private static int wrong = 0;

    private Check() {
    }

    /** Names the words of the document, and where they stand, that the checks behind this hold to. */
    static void sentence(String where, String words) {
        sentence = where + ", \"" + words + "\": ";
        sentences++;
    }

    private static void count(boolean isRight, String message) {
        if (isRight) {
            right++;
        } else {
            wrong++;
            System.out.println(sentence + message);
        }
    }

    static void same(String what, long got, long due) {
        count(got == due, what + " answered " + got + ", due is " + due);
    }

    static void holds(String what, boolean isSo) {
        count(isSo, what);
    }

    static void argument(String what, Call call) {
        throwing(what, IllegalArgumentException.class, call);
    }

    static void index(String what, Call call) {
        throwing(what, IndexOutOfBoundsException.class, call);
    }

    static void throwing(String what, Class<?> due, Call call) {
        Class<?> got = null;
        try {
            call.run();
        } catch (RuntimeException e) {
            got = e.getClass();
        }
        count(got == due, what + " threw " + got + ", due is " + due);
    }

    /** Feeds a text whose characters are bytes. */
    static void feed(ScanTester x, String text) {
        for (int at = 0; at < text.length(); at += 8) {
            int n = Math.min(8, text.length() - at);
            long bytes = 0;
            for (int k = 0; k < n; k++) {
                bytes |= (long) text.charAt(at + k) << 8 * k;
            }
            x.feed(n, bytes);
        }
    }

    /** A new object that has read a text, which must have no fault. */
    static ScanTester reading(String text) {
        ScanTester x = new ScanTester();
        feed(x, text);
        x.read();
        same("fault of " + text, x.fault(), 0);
        return x;
    }

    /** A new object reads a text that has no fault, and so many nets. */
    static void good(String text, int nets) {
        ScanTester x = new ScanTester();
        feed(x, text);
        same("read of " + text, x.read(), nets);
        same("fault of " + text, x.fault(), 0);
        same("place of " + text, x.place(), ScanTester.NONE);
    }

    /** A new object reads a text with a fault; the mark ^ stands before the place that is due. */
    static void bad(int number, String marked) {
        int place = marked.indexOf('^');
        badAt(number, place, marked.substring(0, place) + marked.substring(place + 1));
    }

    static void badAt(int number, int place, String text) {
        ScanTester x = new ScanTester();
        feed(x, text);
        same("read of " + text, x.read(), ScanTester.NONE);
        same("fault of " + text, x.fault(), number);
        same("place of " + text, x.place(), place);
    }

    static void end() {
        System.out.println((sentences > 0 ? sentences + " sentences, " : "") + right + " as due, " + wrong + " not");
        if (wrong != 0 || right == 0) {
            System.exit(1);
        }
    }
}
