/** Circuits, tapes with faults and chips by the hundred, held against the model. */
public final class ModelTest {
    private static final String[] OPERATIONS = {"and", "or", "xor", "nand", "nor", "not", "buf", "mux"};
    private static final String MARKS = "abz019 ;,=<-()?inffoutandmux\0\t\377A";

    /** Of the 512 calls that an object is promised for, what feeding and reading leave. */
    private static final int CALLS = 390;

    private static long seed = 20261115L;
    private static ScanTester asked;
    private static int callsLeft;

    public static void main(String[] args) {
        for (int k = 0; k < 250; k++) {
            circuit(10, 4 + below(12));
        }
        for (int k = 0; k < 6; k++) {
            circuit(10, 60);
        }
        for (int k = 0; k < 20000; k++) {
            brokenTape();
        }
        Check.end();
    }

    /** Numbers that are the same in every run. */
    private static int below(int bound) {
        seed = seed * 6364136223846793005L + 1442695040888963407L;
        return (int) ((seed >>> 33) % bound);
    }

    /** An object that has read the text, for one call; when it has had its calls, a new one comes. */
    private static ScanTester ask(String text) {
        if (callsLeft == 0) {
            asked = Check.reading(text);
            callsLeft = CALLS;
        }
        callsLeft--;
        return asked;
    }

    private static String nameOf(int net) {
        return net % 3 == 0 ? "" + (char) ('a' + net / 3) : "" + (char) ('a' + net / 3) + (net * 7 % 10);
    }

    private static String text(int mostSources, int mostNets) {
        int inputs = below(mostSources + 1);
        int flops = below(mostSources - inputs + 1);
        int sources = inputs + flops;
        StringBuilder text = new StringBuilder("in ");
        list(text, 0, inputs);
        text.append(";ff ");
        list(text, inputs, sources);
        text.append(";");
        int net = sources;
        boolean[] has = new boolean[flops];
        while (net < mostNets && sources > 0 && text.length() < 800) {
            if (flops > 0 && below(4) == 0) {
                int flop = below(flops);
                if (!has[flop]) {
                    has[flop] = true;
                    text.append(nameOf(inputs + flop)).append("<-").append(nameOf(below(net))).append(";");
                }
            } else {
                line(text, net);
                net++;
            }
        }
        text.append("out ");
        int outputs = net == 0 ? 0 : below(9);
        for (int k = 0; k < outputs; k++) {
            text.append(k == 0 ? "" : ",").append(nameOf(below(net)));
        }
        return text.append(";").toString();
    }

    private static void list(StringBuilder text, int from, int to) {
        for (int net = from; net < to; net++) {
            text.append(net == from ? "" : ",").append(nameOf(net));
        }
    }

    private static void line(StringBuilder text, int net) {
        int operation = below(8);
        int names = operation < 5 ? 2 + below(3) : operation < 7 ? 1 : 3;
        text.append(nameOf(net)).append("=").append(OPERATIONS[operation]).append("(");
        for (int k = 0; k < names; k++) {
            int first = below(2) == 0 ? 0 : Math.max(0, net - 6);
            text.append(k == 0 ? "" : ",").append(nameOf(first + below(net - first)));
        }
        text.append(");");
    }

    private static void circuit(int mostSources, int mostNets) {
        String text = text(mostSources, mostNets);
        Model model;
        try {
            model = new Model(text);
        } catch (Model.Fault fault) {
            Check.same("the model refuses " + text, fault.number, 0);
            return;
        }
        callsLeft = 0;
        Check.same("nets of " + text, ask(text).read(), model.nets.size());
        int[] told = {model.inputs.size(), model.flops.size(), model.outputs.size(), model.testable(),
            model.tests.size(), model.rows.size()};
        for (int what = 0; what < 6; what++) {
            Check.same("told " + what + " of " + text, ask(text).told(what), told[what]);
        }
        stuckOnes(model, text);
        for (int i = 0; i < model.tests.size(); i++) {
            Check.same("test " + i + " of " + text, ask(text).test(i), model.tests.get(i));
        }
        for (int i = 0; i < model.rows.size(); i++) {
            for (int what = 0; what < 5; what++) {
                Check.same("row " + i + " " + what + " of " + text, ask(text).row(i, what), model.rows.get(i)[what]);
            }
        }
        for (int k = 0; k < 6; k++) {
            clocks(model, below(2 * model.nets.size() + 1) - 1, text);
        }
    }

    private static void stuckOnes(Model model, String text) {
        int escapes = 0;
        for (int f = -1; f < 2 * model.nets.size(); f++) {
            int fails = model.fails(f);
            Check.same("fails " + f + " of " + text, ask(text).fails(f), fails);
            for (int k = 0; k < 8; k++) {
                int pattern = below(1 << model.sources());
                int due = model.answer(pattern, f);
                Check.same("answer " + pattern + " " + f + " of " + text, ask(text).answer(pattern, f), due);
            }
            if (f >= 0) {
                String cube = model.cube(f);
                Check.same("count " + f + " of " + text, ask(text).shows(f, 0), model.count(f));
                Check.same("least " + f + " of " + text, ask(text).shows(f, 1), model.least(f));
                Check.same("ones " + f + " of " + text, ask(text).shows(f, 2), cube == null ? -1 : Model.bits(cube, '1'));
                Check.same("free " + f + " of " + text, ask(text).shows(f, 3), cube == null ? -1 : Model.bits(cube, 'x'));
                escapes += fails < 0 && cube != null ? 1 : 0;
            }
        }
        Check.same("escapes of " + text, ask(text).escapes(), escapes);
    }

    private static void clocks(Model model, int f, String text) {
        ScanTester x = Check.reading(text);
        x.chip(f);
        Model.Piece piece = model.new Piece(f);
        int coming = 0;
        for (int k = 0; k < CALLS / 6; k++) {
            // The port is led to code 1, which chance alone seldom does.
            int[] row = k >= 20 && k < 34 ? model.rows.get(k - 20) : null;
            int tms = row != null ? row[0] : below(10) < 4 ? 1 : 0;
            int tdi = row != null ? row[1] : below(2);
            int inputs = below(1 << model.inputs.size());
            coming = piece.outputsNow(inputs) | 256 * piece.tdoNow(tdi);
            Check.same("clock " + k + " of " + text, x.clock(tms == 1, tdi == 1, inputs), coming);
            piece.go(tms, tdi, inputs);
            int[] due = {piece.state, piece.code, piece.heldBits(), piece.beside, piece.shifter};
            for (int what = 0; what < 5; what++) {
                Check.same("chipHas " + what + " at " + k + " of " + text, x.chipHas(what), due[what]);
            }
        }
    }

    /** A good tape with a byte or two other, gone or more. */
    private static void brokenTape() {
        StringBuilder text = new StringBuilder(text(4 + below(8) % 7, 12));
        for (int k = below(2); k >= 0; k--) {
            int place = below(text.length());
            char mark = MARKS.charAt(below(MARKS.length()));
            switch (below(4)) {
                case 0: text.setCharAt(place, mark); break;
                case 1: text.insert(place, mark); break;
                case 2: text.deleteCharAt(place); break;
                default: text.setCharAt(place, text.charAt(below(text.length()))); break;
            }
        }
        int number = 0;
        int place = -1;
        int nets = -1;
        try {
            nets = new Model(text.toString()).nets.size();
        } catch (Model.Fault fault) {
            number = fault.number;
            place = fault.place;
        }
        ScanTester x = new ScanTester();
        Check.feed(x, text.toString());
        Check.same("read of " + text, x.read(), nets);
        Check.same("fault of " + text, x.fault(), number);
        Check.same("place of " + text, x.place(), place);
    }
}
