import java.util.Arrays;

/**
 * Makes tests for chips that are reached through five pins, and tries them on
 * chips with a fault. The document's promises say what each method answers.
 */
public final class ScanTester {
    public static final int NONE = -1;

    private static final int MOST_BYTES = 900;
    private static final int MOST_SOURCES = 10;
    private static final int MOST_NETS = 60;
    private static final int MOST_OUTPUTS = 8;
    private static final int MOST_LOOKED = 4;
    private static final int MOST_STUCK = 2 * MOST_NETS;
    private static final int TDO_PIN = 256;

    private final Circuit circuit;
    private final Circuit draft;
    private final Reader reader;
    private final Choice choice;
    private final Program program;
    private final Chip chip;

    public ScanTester() {
        circuit = new Circuit();
        draft = new Circuit();
        reader = new Reader(draft);
        choice = new Choice(circuit);
        program = new Program(circuit, choice);
        chip = new Chip(circuit);
    }

    public int feed(int n, long bytes) throws IllegalArgumentException {
        if (n < 1 || n > 8) {
            throw new IllegalArgumentException();
        }
        return reader.append(n, bytes);
    }

    public int wipe() {
        return reader.empty();
    }

    public int read() {
        if (!reader.accept()) {
            return NONE;
        }
        circuit.become(draft);
        choice.forget();
        program.forget();
        chip.renew(NONE);
        return circuit.nets;
    }

    public int fault() {
        return reader.fault;
    }

    public int place() {
        return reader.place;
    }

    public int told(int what) throws IllegalArgumentException {
        switch (what) {
            case 0: return circuit.inputs;
            case 1: return circuit.flops;
            case 2: return circuit.outputs;
            case 3: return choice.testableCount();
            case 4: return choice.testCount();
            case 5: return program.rowCount();
            default: throw new IllegalArgumentException();
        }
    }

    public int answer(int pattern, int f) throws IllegalArgumentException, IndexOutOfBoundsException {
        if (hasBitsBeyond(pattern, circuit.sources())) {
            throw new IllegalArgumentException();
        }
        if (!isChip(f)) {
            throw new IndexOutOfBoundsException();
        }
        return circuit.respond(pattern, f);
    }

    public int shows(int f, int what) throws IndexOutOfBoundsException, IllegalArgumentException {
        if (!isStuck(f)) {
            throw new IndexOutOfBoundsException();
        }
        switch (what) {
            case 0: return choice.patternCount(f);
            case 1: return choice.leastPattern(f);
            case 2: return choice.onesOfCube(f);
            case 3: return choice.freeOfCube(f);
            default: throw new IllegalArgumentException();
        }
    }

    public int test(int i) throws IndexOutOfBoundsException {
        if (i < 0 || i >= choice.testCount()) {
            throw new IndexOutOfBoundsException();
        }
        return choice.testAt(i);
    }

    public int row(int i, int what) throws IndexOutOfBoundsException, IllegalArgumentException {
        if (i < 0 || i >= program.rowCount()) {
            throw new IndexOutOfBoundsException();
        }
        switch (what) {
            case 0: return program.tms(i);
            case 1: return program.tdi(i);
            case 2: return program.inputs(i);
            case 3: return program.tdoDue(i);
            case 4: return program.outputsDue(i);
            default: throw new IllegalArgumentException();
        }
    }

    public int fails(int f) throws IndexOutOfBoundsException {
        if (!isChip(f)) {
            throw new IndexOutOfBoundsException();
        }
        return program.failingRow(f);
    }

    public int escapes() {
        return program.escapeCount();
    }

    public void chip(int f) throws IndexOutOfBoundsException {
        if (!isChip(f)) {
            throw new IndexOutOfBoundsException();
        }
        chip.renew(f);
    }

    public int clock(boolean tms, boolean tdi, int inputs) throws IllegalArgumentException {
        if (hasBitsBeyond(inputs, circuit.inputs)) {
            throw new IllegalArgumentException();
        }
        int in = tdi ? 1 : 0;
        int seen = chip.outputs(inputs) | (chip.tdo(in) == 1 ? TDO_PIN : 0);
        chip.pulse(tms ? 1 : 0, in, inputs);
        return seen;
    }

    public int chipHas(int what) throws IllegalArgumentException {
        switch (what) {
            case 0: return chip.state;
            case 1: return chip.code;
            case 2: return chip.held;
            case 3: return chip.beside;
            case 4: return chip.shifter;
            default: throw new IllegalArgumentException();
        }
    }

    private boolean isStuck(int f) {
        return f >= 0 && f < 2 * circuit.nets;
    }

    private boolean isChip(int f) {
        return f == NONE || isStuck(f);
    }

    private static boolean hasBitsBeyond(int bits, int count) {
        return (bits & -(1 << count)) != 0;
    }

    /**
     * Nets with what they look at. A net's value is a long, so that one pass
     * serves 64 patterns, or one pattern with all 64 bits alike.
     */
    private static final class Circuit {
        private static final int AND = 0;
        private static final int OR = 1;
        private static final int XOR = 2;
        private static final int NAND = 3;
        private static final int NOR = 4;
        private static final int NOT = 5;
        private static final int BUF = 6;
        private static final int MUX = 7;

        /** Source k in the first 64 patterns; from source 6 on it is alike within 64. */
        private static final long[] COLUMNS = {
            0xAAAAAAAAAAAAAAAAL, 0xCCCCCCCCCCCCCCCCL, 0xF0F0F0F0F0F0F0F0L,
            0xFF00FF00FF00FF00L, 0xFFFF0000FFFF0000L, 0xFFFFFFFF00000000L
        };

        private int inputs;
        private int flops;
        private int nets;
        private int outputs;
        private final int[] operation = new int[MOST_NETS];
        private final int[] lookedCount = new int[MOST_NETS];
        private final int[] looked = new int[MOST_NETS * MOST_LOOKED];
        private final int[] output = new int[MOST_OUTPUTS];
        private final int[] next = new int[MOST_SOURCES];
        private final long[] value = new long[MOST_NETS];

        void clear() {
            inputs = 0;
            flops = 0;
            nets = 0;
            outputs = 0;
            Arrays.fill(next, NONE);
        }

        void become(Circuit other) {
            inputs = other.inputs;
            flops = other.flops;
            nets = other.nets;
            outputs = other.outputs;
            System.arraycopy(other.operation, 0, operation, 0, MOST_NETS);
            System.arraycopy(other.lookedCount, 0, lookedCount, 0, MOST_NETS);
            System.arraycopy(other.looked, 0, looked, 0, MOST_NETS * MOST_LOOKED);
            System.arraycopy(other.output, 0, output, 0, MOST_OUTPUTS);
            System.arraycopy(other.next, 0, next, 0, MOST_SOURCES);
        }

        int sources() {
            return inputs + flops;
        }

        int inputsOf(int pattern) {
            return pattern & ((1 << inputs) - 1);
        }

        int outputsOf(int response) {
            return response & ((1 << outputs) - 1);
        }

        int nextsOf(int response) {
            return response >> outputs;
        }

        boolean isFlop(int net) {
            return net >= inputs && net < sources();
        }

        /** The answer to one pattern. */
        int respond(int pattern, int stuck) {
            for (int k = 0; k < sources(); k++) {
                value[k] = -(long) ((pattern >> k) & 1);
            }
            settle(0, stuck);
            int response = 0;
            for (int k = 0; k < outputs; k++) {
                response |= (int) (value[output[k]] & 1) << k;
            }
            for (int k = 0; k < flops; k++) {
                response |= nextBit(k, pattern) << (outputs + k);
            }
            return response;
        }

        private int nextBit(int flop, int pattern) {
            if (next[flop] == NONE) {
                return (pattern >> (inputs + flop)) & 1;
            }
            return (int) (value[next[flop]] & 1);
        }

        /** Gives the sources their values in patterns 64 * word to 64 * word + 63. */
        void spread(int word) {
            for (int k = 0; k < sources(); k++) {
                value[k] = k < COLUMNS.length ? COLUMNS[k] : -(long) ((word >> (k - COLUMNS.length)) & 1);
            }
        }

        /** Nets look only at nets before them, so one pass upward is enough. */
        void settle(int from, int stuck) {
            for (int net = from; net < nets; net++) {
                if (net >= sources()) {
                    value[net] = gate(net);
                }
                if (stuck != NONE && net == stuck >> 1) {
                    value[net] = -(long) (stuck & 1);
                }
            }
        }

        private long gate(int net) {
            int first = net * MOST_LOOKED;
            long a = value[looked[first]];
            switch (operation[net]) {
                case NOT: return ~a;
                case BUF: return a;
                case MUX: return (~a & value[looked[first + 1]]) | (a & value[looked[first + 2]]);
                case NAND:
                case NOR: return ~joined(net, a);
                default: return joined(net, a);
            }
        }

        private long joined(int net, long first) {
            long sum = first;
            for (int k = 1; k < lookedCount[net]; k++) {
                long more = value[looked[net * MOST_LOOKED + k]];
                switch (operation[net]) {
                    case AND:
                    case NAND: sum &= more; break;
                    case XOR: sum ^= more; break;
                    default: sum |= more; break;
                }
            }
            return sum;
        }

        /**
         * The patterns whose answer is not that of a good chip. A flip-flop
         * without a next keeps what it has, stuck or not: it never differs.
         */
        long differing(long[] good) {
            long patterns = 0;
            for (int k = 0; k < outputs; k++) {
                patterns |= value[output[k]] ^ good[output[k]];
            }
            for (int k = 0; k < flops; k++) {
                if (next[k] != NONE) {
                    patterns |= value[next[k]] ^ good[next[k]];
                }
            }
            return patterns;
        }
    }

    /** The tape, and the way from it to a circuit or to the first fault. */
    private static final class Reader {
        private static final int CANNOT_COME = 1;
        private static final int NOT_GIVEN = 2;
        private static final int GIVEN_ALREADY = 3;
        private static final int TOO_MANY = 4;

        private static final int BLANK = 32;
        private static final int NAMES_A_LETTER = 11;
        private static final int ALL_NAMES = 26 * NAMES_A_LETTER;

        /** Four characters an operation, in the order of Circuit's numbers. */
        private static final String OPERATIONS = "and or  xor nandnor not buf mux ";
        private static final int OPERATION_WIDTH = 4;
        private static final int[] LEAST_LOOKED = {2, 2, 2, 2, 2, 1, 1, 3};
        private static final int[] MOST_OF_OPERATION = {4, 4, 4, 4, 4, 1, 1, 3};

        private final Circuit circuit;
        private final int[] tape = new int[MOST_BYTES];
        private final int[] netOfName = new int[ALL_NAMES];
        private int length;
        private int at;
        private int nameAt;
        private int fault;
        private int place = NONE;

        Reader(Circuit draft) {
            circuit = draft;
        }

        int append(int n, long bytes) {
            if (length + n > MOST_BYTES) {
                return NONE;
            }
            for (int k = 0; k < n; k++) {
                tape[length + k] = (int) ((bytes >> (8 * k)) & 255);
            }
            length += n;
            return length;
        }

        int empty() {
            int had = length;
            length = 0;
            return had;
        }

        /** Whether the tape has no fault; the circuit is that of the tape then. */
        boolean accept() {
            circuit.clear();
            Arrays.fill(netOfName, NONE);
            at = 0;
            fault = 0;
            place = NONE;
            return word("in") && sourceList(false)
                && word("ff") && sourceList(true)
                && lines()
                && word("out") && outputList()
                && tapeEnd();
        }

        private boolean refuse(int number, int where) {
            fault = number;
            place = where;
            return false;
        }

        private void skipBlanks() {
            while (at < length && tape[at] <= BLANK) {
                at++;
            }
        }

        private static boolean isLetter(int b) {
            return b >= 'a' && b <= 'z';
        }

        private static boolean isFigure(int b) {
            return b >= '0' && b <= '9';
        }

        /** Behind the letters and figures that stand here. */
        private int wordEnd() {
            int end = at;
            while (end < length && (isLetter(tape[end]) || isFigure(tape[end]))) {
                end++;
            }
            return end;
        }

        private boolean isHere(String word) {
            skipBlanks();
            if (wordEnd() - at != word.length()) {
                return false;
            }
            for (int k = 0; k < word.length(); k++) {
                if (tape[at + k] != word.charAt(k)) {
                    return false;
                }
            }
            return true;
        }

        private boolean word(String word) {
            if (!isHere(word)) {
                return refuse(CANNOT_COME, at);
            }
            at += word.length();
            return true;
        }

        private boolean takes(char mark) {
            skipBlanks();
            if (at < length && tape[at] == mark) {
                at++;
                return true;
            }
            return false;
        }

        private boolean mark(char mark) {
            return takes(mark) || refuse(CANNOT_COME, at);
        }

        private boolean tapeEnd() {
            skipBlanks();
            return at == length || refuse(CANNOT_COME, at);
        }

        /** The number of the name that stands here, or NONE behind a refusal. */
        private int name() {
            skipBlanks();
            int end = wordEnd();
            int width = end - at;
            nameAt = at;
            if (width < 1 || width > 2 || !isLetter(tape[at]) || (width == 2 && !isFigure(tape[at + 1]))) {
                refuse(CANNOT_COME, at);
                return NONE;
            }
            int name = (tape[at] - 'a') * NAMES_A_LETTER;
            if (width == 2) {
                name += tape[at + 1] - '0' + 1;
            }
            at = end;
            return name;
        }

        /** The net of the name that stands here, or NONE behind a refusal. */
        private int givenNet() {
            int name = name();
            if (name == NONE) {
                return NONE;
            }
            if (netOfName[name] == NONE) {
                refuse(NOT_GIVEN, nameAt);
            }
            return netOfName[name];
        }

        private void give(int name) {
            netOfName[name] = circuit.nets;
            circuit.nets++;
        }

        private boolean sourceList(boolean areFlops) {
            if (takes(';')) {
                return true;
            }
            for (int k = 0; k < MOST_BYTES; k++) {
                if (!source(areFlops)) {
                    return false;
                }
                if (!takes(',')) {
                    return mark(';');
                }
            }
            return false;
        }

        private boolean source(boolean isFlop) {
            int name = name();
            if (name == NONE) {
                return false;
            }
            if (netOfName[name] != NONE) {
                return refuse(GIVEN_ALREADY, nameAt);
            }
            if (circuit.nets >= MOST_SOURCES) {
                return refuse(TOO_MANY, nameAt);
            }
            give(name);
            if (isFlop) {
                circuit.flops++;
            } else {
                circuit.inputs++;
            }
            return true;
        }

        private boolean lines() {
            for (int k = 0; k < MOST_BYTES; k++) {
                if (isHere("out")) {
                    return true;
                }
                if (!line()) {
                    return false;
                }
            }
            return false;
        }

        private boolean line() {
            int name = name();
            if (name == NONE) {
                return false;
            }
            if (takes('=')) {
                return gateLine(name);
            }
            if (takes('<')) {
                return nextLine(netOfName[name]);
            }
            return refuse(CANNOT_COME, at);
        }

        private boolean gateLine(int name) {
            if (netOfName[name] != NONE) {
                return refuse(GIVEN_ALREADY, nameAt);
            }
            if (circuit.nets >= MOST_NETS) {
                return refuse(TOO_MANY, nameAt);
            }
            int operation = operation();
            if (operation == NONE || !mark('(') || !lookedList(operation) || !mark(';')) {
                return false;
            }
            circuit.operation[circuit.nets] = operation;
            // Only now, for a line may not look at the name that it gives.
            give(name);
            return true;
        }

        /** The operation that stands here, or NONE behind a refusal. */
        private int operation() {
            skipBlanks();
            if (at >= length || !isLetter(tape[at])) {
                refuse(CANNOT_COME, at);
                return NONE;
            }
            int end = wordEnd();
            for (int k = 0; k < LEAST_LOOKED.length; k++) {
                if (isOperation(k, end - at)) {
                    at = end;
                    return k;
                }
            }
            refuse(GIVEN_ALREADY, at);
            return NONE;
        }

        private boolean isOperation(int operation, int width) {
            if (width > OPERATION_WIDTH) {
                return false;
            }
            for (int k = 0; k < OPERATION_WIDTH; k++) {
                int here = k < width ? tape[at + k] : ' ';
                if (here != OPERATIONS.charAt(operation * OPERATION_WIDTH + k)) {
                    return false;
                }
            }
            return true;
        }

        private boolean lookedList(int operation) {
            int least = LEAST_LOOKED[operation];
            int most = MOST_OF_OPERATION[operation];
            for (int k = 0; k <= MOST_LOOKED; k++) {
                int net = givenNet();
                if (net == NONE) {
                    return false;
                }
                if (k == MOST_LOOKED) {
                    return refuse(TOO_MANY, nameAt);
                }
                circuit.looked[circuit.nets * MOST_LOOKED + k] = net;
                int count = k + 1;
                if (count >= least && takes(')')) {
                    circuit.lookedCount[circuit.nets] = count;
                    return true;
                }
                // The fifth name has a fault of its own, so its comma may come.
                boolean mayGoOn = count < most || most == MOST_LOOKED;
                if (!mayGoOn || !takes(',')) {
                    return refuse(CANNOT_COME, at);
                }
            }
            return false;
        }

        private boolean nextLine(int net) {
            if (net == NONE || !circuit.isFlop(net)) {
                return refuse(NOT_GIVEN, nameAt);
            }
            int flop = net - circuit.inputs;
            if (circuit.next[flop] != NONE) {
                return refuse(GIVEN_ALREADY, nameAt);
            }
            if (!mark('-')) {
                return false;
            }
            circuit.next[flop] = givenNet();
            return circuit.next[flop] != NONE && mark(';');
        }

        private boolean outputList() {
            if (takes(';')) {
                return true;
            }
            for (int k = 0; k <= MOST_OUTPUTS; k++) {
                int net = givenNet();
                if (net == NONE) {
                    return false;
                }
                if (k == MOST_OUTPUTS) {
                    return refuse(TOO_MANY, nameAt);
                }
                circuit.output[k] = net;
                circuit.outputs = k + 1;
                if (!takes(',')) {
                    return mark(';');
                }
            }
            return false;
        }
    }

    /**
     * With which patterns each stuck f shows, and the tests that are chosen
     * from that. Made when first asked for, as many circuits never are.
     */
    private static final class Choice {
        private static final int WORD_SOURCES = 6;
        private static final int MOST_WORDS = 1 << (MOST_SOURCES - WORD_SOURCES);

        private final Circuit circuit;
        private final long[] showing = new long[MOST_STUCK * MOST_WORDS];
        private final long[] good = new long[MOST_NETS];
        private final int[] ones = new int[MOST_STUCK];
        private final int[] free = new int[MOST_STUCK];
        private final int[] due = new int[MOST_STUCK];
        private boolean made;
        private int words;
        private long patternsOfWord;
        private int testable;
        private int chosen;

        Choice(Circuit circuit) {
            this.circuit = circuit;
        }

        void forget() {
            made = false;
        }

        int testableCount() {
            make();
            return testable;
        }

        int testCount() {
            make();
            return chosen;
        }

        /** What is free has no bit among the ones, so it is 0 in the test. */
        int testAt(int i) {
            make();
            return ones[i];
        }

        /** What a good chip answers to test i. */
        int dueAt(int i) {
            make();
            return due[i];
        }

        boolean isTestable(int f) {
            make();
            return anyPattern(f);
        }

        int patternCount(int f) {
            make();
            int count = 0;
            for (int w = 0; w < words; w++) {
                count += Long.bitCount(showing[f * MOST_WORDS + w]);
            }
            return count;
        }

        int leastPattern(int f) {
            make();
            return least(f);
        }

        int onesOfCube(int f) {
            make();
            if (!anyPattern(f)) {
                return NONE;
            }
            return least(f) & ~freeSources(f);
        }

        int freeOfCube(int f) {
            make();
            return anyPattern(f) ? freeSources(f) : NONE;
        }

        private void make() {
            if (made) {
                return;
            }
            made = true;
            int sources = circuit.sources();
            words = sources > WORD_SOURCES ? 1 << (sources - WORD_SOURCES) : 1;
            patternsOfWord = sources >= WORD_SOURCES ? -1L : (1L << (1 << sources)) - 1;
            for (int w = 0; w < words; w++) {
                weigh(w);
            }
            choose();
        }

        private void weigh(int w) {
            int nets = circuit.nets;
            circuit.spread(w);
            circuit.settle(0, NONE);
            System.arraycopy(circuit.value, 0, good, 0, nets);
            for (int f = 0; f < 2 * nets; f++) {
                circuit.settle(f >> 1, f);
                showing[f * MOST_WORDS + w] = circuit.differing(good) & patternsOfWord;
                System.arraycopy(good, 0, circuit.value, 0, nets);
            }
        }

        private void choose() {
            testable = 0;
            chosen = 0;
            for (int f = 0; f < 2 * circuit.nets; f++) {
                if (anyPattern(f)) {
                    testable++;
                    if (!showsWithChosen(f)) {
                        merge(f);
                    }
                }
            }
            for (int i = 0; i < chosen; i++) {
                due[i] = circuit.respond(ones[i], NONE);
            }
        }

        private boolean showsWithChosen(int f) {
            for (int i = 0; i < chosen; i++) {
                if (showsWith(f, ones[i], free[i])) {
                    return true;
                }
            }
            return false;
        }

        private void merge(int f) {
            int itsFree = freeSources(f);
            int itsOnes = least(f) & ~itsFree;
            for (int i = 0; i < chosen; i++) {
                if (((ones[i] ^ itsOnes) & ~(free[i] | itsFree)) == 0) {
                    ones[i] |= itsOnes;
                    free[i] &= itsFree;
                    return;
                }
            }
            ones[chosen] = itsOnes;
            free[chosen] = itsFree;
            chosen++;
        }

        private boolean anyPattern(int f) {
            for (int w = 0; w < words; w++) {
                if (showing[f * MOST_WORDS + w] != 0) {
                    return true;
                }
            }
            return false;
        }

        private int least(int f) {
            for (int pattern = 0; pattern < (words << WORD_SOURCES); pattern++) {
                long word = showing[f * MOST_WORDS + (pattern >> WORD_SOURCES)];
                if (((word >> (pattern & 63)) & 1) != 0) {
                    return pattern;
                }
            }
            return NONE;
        }

        /** The free sources of the cube of f, which must be testable. */
        private int freeSources(int f) {
            int pattern = least(f);
            int itsFree = 0;
            for (int k = 0; k < circuit.sources(); k++) {
                if (showsWith(f, pattern, itsFree | (1 << k))) {
                    itsFree |= 1 << k;
                }
            }
            return itsFree;
        }

        /** Whether f shows with all patterns that are as this one but for the free sources. */
        private boolean showsWith(int f, int pattern, int freeOnes) {
            long within = patternsOfWord;
            for (int k = 0; k < WORD_SOURCES && k < circuit.sources(); k++) {
                if (((freeOnes >> k) & 1) == 0) {
                    within &= ((pattern >> k) & 1) != 0 ? Circuit.COLUMNS[k] : ~Circuit.COLUMNS[k];
                }
            }
            for (int w = 0; w < words; w++) {
                boolean isLeft = ((w ^ (pattern >> WORD_SOURCES)) & ~(freeOnes >> WORD_SOURCES)) == 0;
                if (isLeft && (within & ~showing[f * MOST_WORDS + w]) != 0) {
                    return false;
                }
            }
            return true;
        }
    }

    /** Flip-flops in a chain behind a port of sixteen states. */
    private static final class Chip {
        private static final int RESET = 0;
        private static final int IDLE = 1;
        private static final int CAPTURE_DATA = 3;
        private static final int SHIFT_DATA = 4;
        private static final int CAPTURE_CODE = 10;
        private static final int SHIFT_CODE = 11;
        private static final int UPDATE_CODE = 15;
        private static final int CHAIN_CODE = 1;
        private static final int FIRST_CODE = 3;

        /** The next state, for each state with tms 0, then with tms 1. */
        private static final int[] AFTER = {
            1, 0, 1, 2, 3, 9, 4, 5, 4, 5, 6, 8, 6, 7, 4, 8,
            1, 2, 10, 0, 11, 12, 11, 12, 13, 15, 13, 14, 11, 15, 1, 2
        };

        private final Circuit circuit;
        private int stuck = NONE;
        private int state = RESET;
        private int code = FIRST_CODE;
        private int held;
        private int beside;
        private int shifter;

        Chip(Circuit circuit) {
            this.circuit = circuit;
        }

        void renew(int f) {
            stuck = f;
            state = RESET;
            code = FIRST_CODE;
            held = 0;
            beside = 0;
            shifter = 0;
        }

        int outputs(int inputs) {
            return circuit.outputsOf(response(inputs));
        }

        int tdo(int tdi) {
            if (state == SHIFT_CODE) {
                return shifter & 1;
            }
            if (state != SHIFT_DATA) {
                return 0;
            }
            if (code != CHAIN_CODE) {
                return beside;
            }
            return circuit.flops == 0 ? tdi : (held >> (circuit.flops - 1)) & 1;
        }

        void pulse(int tms, int tdi, int inputs) {
            switch (state) {
                case RESET: code = FIRST_CODE; break;
                case IDLE: idle(inputs); break;
                case CAPTURE_DATA: capture(inputs); break;
                case SHIFT_DATA: shift(tdi); break;
                case CAPTURE_CODE: shifter = 1; break;
                case SHIFT_CODE: shifter = (shifter >> 1) | (tdi << 1); break;
                case UPDATE_CODE: code = shifter; break;
                default: break;
            }
            state = AFTER[2 * state + tms];
        }

        private int response(int inputs) {
            return circuit.respond(inputs | (held << circuit.inputs), stuck);
        }

        private void idle(int inputs) {
            if (code != CHAIN_CODE) {
                held = circuit.nextsOf(response(inputs));
            }
        }

        private void capture(int inputs) {
            if (code == CHAIN_CODE) {
                held = circuit.nextsOf(response(inputs));
            } else {
                beside = 0;
            }
        }

        private void shift(int tdi) {
            if (code == CHAIN_CODE) {
                held = ((held << 1) | tdi) & ((1 << circuit.flops) - 1);
            } else {
                beside = tdi;
            }
        }
    }

    /** The rows for the tests, each made when it is asked for. */
    private static final class Program {
        private static final int ANYTHING = 2;

        /** From any state to code 1, and to state 2. */
        private static final int[] LEAD_TMS = {1, 1, 1, 1, 1, 0, 1, 1, 0, 0, 0, 1, 1, 1};
        private static final int[] LEAD_TDI = {0, 0, 0, 0, 0, 0, 0, 0, 0, 0, 1, 0, 0, 0};
        private static final int LEAD = 14;

        /** The steps of a test: select, capture, then a shift a flip-flop, exit, update. */
        private static final int CAPTURE = 1;
        private static final int FIRST_SHIFT = 2;
        private static final int STEPS_BESIDE_SHIFTS = 4;

        private final Circuit circuit;
        private final Choice choice;
        private final Chip trial;
        private int escaped = NONE;

        Program(Circuit circuit, Choice choice) {
            this.circuit = circuit;
            this.choice = choice;
            trial = new Chip(circuit);
        }

        void forget() {
            escaped = NONE;
        }

        int rowCount() {
            return LEAD + (choice.testCount() + 1) * stepsOfTest();
        }

        int tms(int i) {
            if (i < LEAD) {
                return LEAD_TMS[i];
            }
            return step(i) > circuit.flops ? 1 : 0;
        }

        int tdi(int i) {
            if (i < LEAD) {
                return LEAD_TDI[i];
            }
            if (!isShift(i) || turn(i) >= choice.testCount()) {
                return 0;
            }
            return (choice.testAt(turn(i)) >> (circuit.inputs + flopOfShift(i))) & 1;
        }

        int inputs(int i) {
            return capturesTest(i) ? circuit.inputsOf(choice.testAt(turn(i) - 1)) : 0;
        }

        int tdoDue(int i) {
            if (!isShift(i) || turn(i) == 0) {
                return ANYTHING;
            }
            return (circuit.nextsOf(choice.dueAt(turn(i) - 1)) >> flopOfShift(i)) & 1;
        }

        int outputsDue(int i) {
            return capturesTest(i) ? circuit.outputsOf(choice.dueAt(turn(i) - 1)) : NONE;
        }

        int failingRow(int f) {
            trial.renew(f);
            int rows = rowCount();
            for (int i = 0; i < rows; i++) {
                if (!showsWhatIsDue(i)) {
                    return i;
                }
                trial.pulse(tms(i), tdi(i), inputs(i));
            }
            return NONE;
        }

        int escapeCount() {
            if (escaped == NONE) {
                escaped = 0;
                for (int f = 0; f < 2 * circuit.nets; f++) {
                    if (choice.isTestable(f) && failingRow(f) == NONE) {
                        escaped++;
                    }
                }
            }
            return escaped;
        }

        private boolean showsWhatIsDue(int i) {
            int tdo = tdoDue(i);
            if (tdo != ANYTHING && tdo != trial.tdo(tdi(i))) {
                return false;
            }
            int outputs = outputsDue(i);
            return outputs == NONE || outputs == trial.outputs(inputs(i));
        }

        private int stepsOfTest() {
            return STEPS_BESIDE_SHIFTS + circuit.flops;
        }

        /** The test that a row behind the lead brings in; the one before it is looked at. */
        private int turn(int i) {
            return (i - LEAD) / stepsOfTest();
        }

        private int step(int i) {
            return (i - LEAD) % stepsOfTest();
        }

        private boolean isShift(int i) {
            return i >= LEAD && step(i) >= FIRST_SHIFT && step(i) < FIRST_SHIFT + circuit.flops;
        }

        private int flopOfShift(int i) {
            return circuit.flops - 1 - (step(i) - FIRST_SHIFT);
        }

        private boolean capturesTest(int i) {
            return i >= LEAD && step(i) == CAPTURE && turn(i) > 0;
        }
    }
}
