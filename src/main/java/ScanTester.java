import java.util.Arrays;

/**
 * Makes tests for chips that are reached through five pins, and tries them on
 * chips with a fault. The document's promises say what each method answers.
 */
public final class ScanTester {
    public static final int NONE = -1;

    private static final int MOST_BYTES = 900;
    private static final int MOST_SOURCES = 10;
    private static final int MOST_NETS = 60;
    private static final int MOST_OUTPUTS = 8;
    private static final int MOST_LOOKED = 4;
    private static final int MOST_STUCK = 2 * MOST_NETS;
    private static final int TDO_PIN = 256;

    private final Circuit circuit;
    private final Circuit draft;
    private final Reader reader;
    private final Choice choice;
    private final Program program;
    private final Chip chip;
    private int escaped = NONE;

    public ScanTester() {
        circuit = new Circuit();
        draft = new Circuit();
        reader = new Reader(draft);
        choice = new Choice(circuit);
        program = new Program(circuit, choice);
        chip = new Chip(circuit);
    }

    public int feed(int n, long bytes) throws IllegalArgumentException {
        if (n < 1 || n > 8) {
            throw new IllegalArgumentException();
        }
        return reader.append(n, bytes);
    }

    public int wipe() {
        return reader.empty();
    }

    public int read() {
        if (!reader.accept()) {
            return NONE;
        }
        circuit.become(draft);
        choice.forget();
        escaped = NONE;
        chip.renew(NONE);
        return circuit.nets;
    }

    public int fault() {
        return reader.fault;
    }

    public int place() {
        return reader.place;
    }

    public int told(int what) throws IllegalArgumentException {
        switch (what) {
            case 0: return circuit.inputs;
            case 1: return circuit.flops;
            case 2: return circuit.outputs;
            case 3: choice.make(); return choice.testable;
            case 4: choice.make(); return choice.tests;
            case 5: choice.make(); return program.rowCount();
            default: throw new IllegalArgumentException();
        }
    }

    public int answer(int pattern, int f) throws IllegalArgumentException, IndexOutOfBoundsException {
        if (hasBitsBeyond(pattern, circuit.sources())) {
            throw new IllegalArgumentException();
        }
        if (!isChip(f)) {
            throw new IndexOutOfBoundsException();
        }
        return circuit.respond(pattern, f);
    }

    public int shows(int f, int what) throws IndexOutOfBoundsException, IllegalArgumentException {
        if (!isStuck(f)) {
            throw new IndexOutOfBoundsException();
        }
        choice.make();
        switch (what) {
            case 0: return choice.patternCount(f);
            case 1: return choice.leastPattern(f);
            case 2: return choice.onesOfCube(f);
            case 3: return choice.freeOfCube(f);
            default: throw new IllegalArgumentException();
        }
    }

    public int test(int i) throws IndexOutOfBoundsException {
        choice.make();
        if (i < 0 || i >= choice.tests) {
            throw new IndexOutOfBoundsException();
        }
        return choice.ones[i];
    }

    public int row(int i, int what) throws IndexOutOfBoundsException, IllegalArgumentException {
        choice.make();
        if (i < 0 || i >= program.rowCount()) {
            throw new IndexOutOfBoundsException();
        }
        switch (what) {
            case 0: return program.tms(i);
            case 1: return program.tdi(i);
            case 2: return program.inputs(i);
            case 3: return program.tdoDue(i);
            case 4: return program.outputsDue(i);
            default: throw new IllegalArgumentException();
        }
    }

    public int fails(int f) throws IndexOutOfBoundsException {
        if (!isChip(f)) {
            throw new IndexOutOfBoundsException();
        }
        choice.make();
        return program.failingRow(f);
    }

    public int escapes() {
        if (escaped == NONE) {
            choice.make();
            escaped = 0;
            for (int f = 0; f < 2 * circuit.nets; f++) {
                if (choice.isTestable(f) && program.failingRow(f) == NONE) {
                    escaped++;
                }
            }
        }
        return escaped;
    }

    public void chip(int f) throws IndexOutOfBoundsException {
        if (!isChip(f)) {
            throw new IndexOutOfBoundsException();
        }
        chip.renew(f);
    }

    public int clock(boolean tms, boolean tdi, int inputs) throws IllegalArgumentException {
        if (hasBitsBeyond(inputs, circuit.inputs)) {
            throw new IllegalArgumentException();
        }
        int in = tdi ? 1 : 0;
        int seen = chip.outputs(inputs) | (chip.tdo(in) == 1 ? TDO_PIN : 0);
        chip.pulse(tms ? 1 : 0, in, inputs);
        return seen;
    }

    public int chipHas(int what) throws IllegalArgumentException {
        switch (what) {
            case 0: return chip.state;
            case 1: return chip.code;
            case 2: return chip.held;
            case 3: return chip.beside;
            case 4: return chip.shifter;
            default: throw new IllegalArgumentException();
        }
    }

    private boolean isStuck(int f) {
        return f >= 0 && f < 2 * circuit.nets;
    }

    private boolean isChip(int f) {
        return f == NONE || isStuck(f);
    }

    private static boolean hasBitsBeyond(int bits, int count) {
        return (bits & -(1 << count)) != 0;
    }

    /**
     * Nets with what they look at. A net's value is a long, so that one pass
     * serves 64 patterns, or one pattern with all 64 bits alike.
     */
    private static final class Circuit {
        /** As Reader's list has the operations; or and buf need no name. */
        private static final int AND = 0;
        private static final int XOR = 2;
        private static final int NAND = 3;
        private static final int NOR = 4;
        private static final int NOT = 5;
        private static final int MUX = 7;

        /** Source k in the first 64 patterns; from source 6 on it is alike within 64. */
        private static final long[] COLUMNS = {
            0xAAAAAAAAAAAAAAAAL, 0xCCCCCCCCCCCCCCCCL, 0xF0F0F0F0F0F0F0F0L,
            0xFF00FF00FF00FF00L, 0xFFFF0000FFFF0000L, 0xFFFFFFFF00000000L
        };

        private int inputs;
        private int flops;
        private int nets;
        private int outputs;
        private final int[] operation = new int[MOST_NETS];
        private final int[] lookedCount = new int[MOST_NETS];
        private final int[] looked = new int[MOST_NETS * MOST_LOOKED];
        private final int[] output = new int[MOST_OUTPUTS];
        private final int[] next = new int[MOST_SOURCES];
        private final long[] value = new long[MOST_NETS];

        void clear() {
            inputs = 0;
            flops = 0;
            nets = 0;
            outputs = 0;
            Arrays.fill(next, NONE);
        }

        void become(Circuit other) {
            inputs = other.inputs;
            flops = other.flops;
            nets = other.nets;
            outputs = other.outputs;
            System.arraycopy(other.operation, 0, operation, 0, MOST_NETS);
            System.arraycopy(other.lookedCount, 0, lookedCount, 0, MOST_NETS);
            System.arraycopy(other.looked, 0, looked, 0, MOST_NETS * MOST_LOOKED);
            System.arraycopy(other.output, 0, output, 0, MOST_OUTPUTS);
            System.arraycopy(other.next, 0, next, 0, MOST_SOURCES);
        }

        int sources() {
            return inputs + flops;
        }

        int inputsOf(int pattern) {
            return pattern & ((1 << inputs) - 1);
        }

        int outputsOf(int response) {
            return response & ((1 << outputs) - 1);
        }

        int nextsOf(int response) {
            return response >> outputs;
        }

        boolean isFlop(int net) {
            return net >= inputs && net < sources();
        }

        /** The answer to one pattern. */
        int respond(int pattern, int stuck) {
            for (int k = 0; k < sources(); k++) {
                value[k] = -(long) ((pattern >> k) & 1);
            }
            settle(0, stuck);
            int response = 0;
            for (int k = 0; k < outputs; k++) {
                response |= (int) (value[output[k]] & 1) << k;
            }
            for (int k = 0; k < flops; k++) {
                response |= nextBit(k, pattern) << (outputs + k);
            }
            return response;
        }

        private int nextBit(int flop, int pattern) {
            if (next[flop] == NONE) {
                return (pattern >> (inputs + flop)) & 1;
            }
            return (int) (value[next[flop]] & 1);
        }

        /** Gives the sources their values in patterns 64 * word to 64 * word + 63. */
        void spread(int word) {
            for (int k = 0; k < sources(); k++) {
                value[k] = k < COLUMNS.length ? COLUMNS[k] : -(long) ((word >> (k - COLUMNS.length)) & 1);
            }
        }

        /** Nets look only at nets before them, so one pass upward is enough. */
        void settle(int from, int stuck) {
            for (int net = from; net < nets; net++) {
                if (net >= sources()) {
                    value[net] = gate(net);
                }
                if (stuck != NONE && net == stuck >> 1) {
                    value[net] = -(long) (stuck & 1);
                }
            }
        }

        private long gate(int net) {
            int its = operation[net];
            int first = net * MOST_LOOKED;
            long sum = value[looked[first]];
            if (its == MUX) {
                return (~sum & value[looked[first + 1]]) | (sum & value[looked[first + 2]]);
            }
            for (int k = 1; k < lookedCount[net]; k++) {
                long more = value[looked[first + k]];
                switch (its) {
                    case AND:
                    case NAND: sum &= more; break;
                    case XOR: sum ^= more; break;
                    default: sum |= more; break;
                }
            }
            return its == NOT || its == NAND || its == NOR ? ~sum : sum;
        }

        /**
         * The patterns whose answer is not that of a good chip. A flip-flop
         * without a next keeps what it has, stuck or not: it never differs.
         */
        long differing(long[] good) {
            long patterns = 0;
            for (int k = 0; k < outputs; k++) {
                patterns |= value[output[k]] ^ good[output[k]];
            }
            for (int k = 0; k < flops; k++) {
                if (next[k] != NONE) {
                    patterns |= value[next[k]] ^ good[next[k]];
                }
            }
            return patterns;
        }
    }

    /** The tape, and the way from it to a circuit or to the first fault. */
    private static final class Reader {
        private static final int CANNOT_COME = 1;
        private static final int NOT_GIVEN = 2;
        private static final int GIVEN_ALREADY = 3;
        private static final int NO_OPERATION = 3;
        private static final int TOO_MANY = 4;

        private static final int BLANK = 32;
        private static final int NAMES_A_LETTER = 11;
        private static final int ALL_NAMES = 26 * NAMES_A_LETTER;

        /** Four characters an operation, in the order of Circuit's numbers. */
        private static final String OPERATIONS = "and or  xor nandnor not buf mux ";
        private static final int OPERATION_WIDTH = 4;
        private static final int[] LEAST_LOOKED = {2, 2, 2, 2, 2, 1, 1, 3};
        private static final int[] MOST_OF_OPERATION = {4, 4, 4, 4, 4, 1, 1, 3};

        private final Circuit circuit;
        private final int[] tape = new int[MOST_BYTES];
        private final int[] netOfName = new int[ALL_NAMES];
        private int length;
        private int fault;
        private int place = NONE;

        /** The word or mark that comes next: where it begins and ends, its name's number or NONE. */
        private int at;
        private int end;
        private int name;

        Reader(Circuit draft) {
            circuit = draft;
        }

        int append(int n, long bytes) {
            if (length + n > MOST_BYTES) {
                return NONE;
            }
            for (int k = 0; k < n; k++) {
                tape[length + k] = (int) ((bytes >> (8 * k)) & 255);
            }
            length += n;
            return length;
        }

        int empty() {
            int had = length;
            length = 0;
            return had;
        }

        /** Whether the tape has no fault; the circuit is that of the tape then. */
        boolean accept() {
            circuit.clear();
            Arrays.fill(netOfName, NONE);
            fault = 0;
            place = NONE;
            end = 0;
            advance();
            return word("in") && sourceList(false)
                && word("ff") && sourceList(true)
                && lines()
                && word("out") && outputList()
                && tapeEnd();
        }

        private boolean refuse(int number, int where) {
            fault = number;
            place = where;
            return false;
        }

        private void advance() {
            at = end;
            while (at < length && tape[at] <= BLANK) {
                at++;
            }
            end = at;
            while (end < length && isWordByte(tape[end])) {
                end++;
            }
            name = nameHere();
            if (end == at && at < length) {
                end++;
            }
        }

        private static boolean isWordByte(int b) {
            return (b >= 'a' && b <= 'z') || (b >= '0' && b <= '9');
        }

        /** Within a word a byte is a letter or, if it is below them, a figure. */
        private int nameHere() {
            int width = end - at;
            if (width < 1 || width > 2 || tape[at] < 'a') {
                return NONE;
            }
            int letter = (tape[at] - 'a') * NAMES_A_LETTER;
            if (width == 1) {
                return letter;
            }
            return tape[at + 1] < 'a' ? letter + 1 + tape[at + 1] - '0' : NONE;
        }

        private boolean isWord(String word) {
            if (end - at != word.length()) {
                return false;
            }
            for (int k = 0; k < word.length(); k++) {
                if (at + k >= length || tape[at + k] != word.charAt(k)) {
                    return false;
                }
            }
            return true;
        }

        private boolean word(String word) {
            if (!isWord(word)) {
                return refuse(CANNOT_COME, at);
            }
            advance();
            return true;
        }

        private boolean isMark(char mark) {
            return at < length && tape[at] == mark;
        }

        private boolean takes(char mark) {
            if (!isMark(mark)) {
                return false;
            }
            advance();
            return true;
        }

        private boolean mark(char mark) {
            return takes(mark) || refuse(CANNOT_COME, at);
        }

        private boolean tapeEnd() {
            return at == length || refuse(CANNOT_COME, at);
        }

        /** Whether a name that is given already stands here. */
        private boolean isGiven() {
            if (name == NONE) {
                return refuse(CANNOT_COME, at);
            }
            return netOfName[name] != NONE || refuse(NOT_GIVEN, at);
        }

        /** Whether a name at this place may be given, if so many nets are the most. */
        private boolean mayGive(int its, int where, int most) {
            if (netOfName[its] != NONE) {
                return refuse(GIVEN_ALREADY, where);
            }
            return circuit.nets < most || refuse(TOO_MANY, where);
        }

        private void give(int its) {
            netOfName[its] = circuit.nets;
            circuit.nets++;
        }

        private boolean sourceList(boolean areFlops) {
            if (takes(';')) {
                return true;
            }
            for (int k = 0; k <= MOST_SOURCES; k++) {
                if (!source(areFlops)) {
                    return false;
                }
                if (!takes(',')) {
                    return mark(';');
                }
            }
            return false;
        }

        private boolean source(boolean isFlop) {
            if (name == NONE) {
                return refuse(CANNOT_COME, at);
            }
            if (!mayGive(name, at, MOST_SOURCES)) {
                return false;
            }
            give(name);
            if (isFlop) {
                circuit.flops++;
            } else {
                circuit.inputs++;
            }
            advance();
            return true;
        }

        private boolean lines() {
            for (int k = 0; k < MOST_BYTES; k++) {
                if (isWord("out")) {
                    return true;
                }
                int its = name;
                int where = at;
                if (its == NONE) {
                    return refuse(CANNOT_COME, at);
                }
                advance();
                boolean isFine = isMark('=') ? gateLine(its, where) : nextLine(netOfName[its], where);
                if (!isFine) {
                    return false;
                }
            }
            return false;
        }

        private boolean gateLine(int its, int where) {
            if (!mayGive(its, where, MOST_NETS)) {
                return false;
            }
            advance();
            int operation = operationHere();
            if (operation == NONE) {
                return false;
            }
            advance();
            if (!mark('(') || !lookedList(operation) || !mark(';')) {
                return false;
            }
            circuit.operation[circuit.nets] = operation;
            // Only now, for a line may not look at the name that it gives.
            give(its);
            return true;
        }

        /** The operation that stands here, or NONE behind a refusal. */
        private int operationHere() {
            if (at >= length || tape[at] < 'a' || tape[at] > 'z') {
                refuse(CANNOT_COME, at);
                return NONE;
            }
            for (int k = 0; k < LEAST_LOOKED.length; k++) {
                if (isOperation(k)) {
                    return k;
                }
            }
            refuse(NO_OPERATION, at);
            return NONE;
        }

        private boolean isOperation(int operation) {
            int width = end - at;
            if (width > OPERATION_WIDTH) {
                return false;
            }
            for (int k = 0; k < OPERATION_WIDTH; k++) {
                int here = k < width ? tape[at + k] : ' ';
                if (here != OPERATIONS.charAt(operation * OPERATION_WIDTH + k)) {
                    return false;
                }
            }
            return true;
        }

        private boolean lookedList(int operation) {
            int least = LEAST_LOOKED[operation];
            int most = MOST_OF_OPERATION[operation];
            for (int k = 0; k <= MOST_LOOKED; k++) {
                if (!isGiven()) {
                    return false;
                }
                if (k == MOST_LOOKED) {
                    return refuse(TOO_MANY, at);
                }
                circuit.looked[circuit.nets * MOST_LOOKED + k] = netOfName[name];
                advance();
                int count = k + 1;
                if (count >= least && takes(')')) {
                    circuit.lookedCount[circuit.nets] = count;
                    return true;
                }
                // The fifth name has a fault of its own, so its comma may come.
                boolean mayGoOn = count < most || most == MOST_LOOKED;
                if (!mayGoOn || !takes(',')) {
                    return refuse(CANNOT_COME, at);
                }
            }
            return false;
        }

        private boolean nextLine(int net, int where) {
            if (!isMark('<')) {
                return refuse(CANNOT_COME, at);
            }
            if (net == NONE || !circuit.isFlop(net)) {
                return refuse(NOT_GIVEN, where);
            }
            int flop = net - circuit.inputs;
            if (circuit.next[flop] != NONE) {
                return refuse(GIVEN_ALREADY, where);
            }
            advance();
            if (!mark('-') || !isGiven()) {
                return false;
            }
            circuit.next[flop] = netOfName[name];
            advance();
            return mark(';');
        }

        private boolean outputList() {
            if (takes(';')) {
                return true;
            }
            for (int k = 0; k <= MOST_OUTPUTS; k++) {
                if (!isGiven()) {
                    return false;
                }
                if (k == MOST_OUTPUTS) {
                    return refuse(TOO_MANY, at);
                }
                circuit.output[k] = netOfName[name];
                circuit.outputs = k + 1;
                advance();
                if (!takes(',')) {
                    return mark(';');
                }
            }
            return false;
        }
    }

    /**
     * With which patterns each stuck f shows, and the tests that are chosen
     * from that. Many circuits are never asked for it, so it is made on demand:
     * make() comes before all that tells of it.
     */
    private static final class Choice {
        private static final int WORD_SOURCES = 6;
        private static final int MOST_WORDS = 1 << (MOST_SOURCES - WORD_SOURCES);

        private final Circuit circuit;
        private final long[] showing = new long[MOST_STUCK * MOST_WORDS];
        private final long[] good = new long[MOST_NETS];

        /** The cubes chosen; what is free has no bit among the ones, so these are the tests. */
        private final int[] ones = new int[MOST_STUCK];
        private final int[] free = new int[MOST_STUCK];

        /** What a good chip answers to each test. */
        private final int[] due = new int[MOST_STUCK];

        private boolean made;
        private int words;
        private long patternsOfWord;
        private int testable;
        private int tests;

        Choice(Circuit circuit) {
            this.circuit = circuit;
        }

        void forget() {
            made = false;
        }

        void make() {
            if (made) {
                return;
            }
            made = true;
            int sources = circuit.sources();
            words = sources > WORD_SOURCES ? 1 << (sources - WORD_SOURCES) : 1;
            patternsOfWord = sources >= WORD_SOURCES ? -1L : (1L << (1 << sources)) - 1;
            for (int w = 0; w < words; w++) {
                weigh(w);
            }
            choose();
        }

        boolean isTestable(int f) {
            for (int w = 0; w < words; w++) {
                if (showing[f * MOST_WORDS + w] != 0) {
                    return true;
                }
            }
            return false;
        }

        int patternCount(int f) {
            int count = 0;
            for (int w = 0; w < words; w++) {
                count += Long.bitCount(showing[f * MOST_WORDS + w]);
            }
            return count;
        }

        int leastPattern(int f) {
            for (int pattern = 0; pattern < (words << WORD_SOURCES); pattern++) {
                long word = showing[f * MOST_WORDS + (pattern >> WORD_SOURCES)];
                if (((word >> (pattern & 63)) & 1) != 0) {
                    return pattern;
                }
            }
            return NONE;
        }

        int onesOfCube(int f) {
            return isTestable(f) ? leastPattern(f) & ~freeSources(f) : NONE;
        }

        int freeOfCube(int f) {
            return isTestable(f) ? freeSources(f) : NONE;
        }

        private void weigh(int w) {
            int nets = circuit.nets;
            circuit.spread(w);
            circuit.settle(0, NONE);
            System.arraycopy(circuit.value, 0, good, 0, nets);
            for (int f = 0; f < 2 * nets; f++) {
                circuit.settle(f >> 1, f);
                showing[f * MOST_WORDS + w] = circuit.differing(good) & patternsOfWord;
                System.arraycopy(good, 0, circuit.value, 0, nets);
            }
        }

        private void choose() {
            testable = 0;
            tests = 0;
            for (int f = 0; f < 2 * circuit.nets; f++) {
                if (isTestable(f)) {
                    testable++;
                    if (!showsWithChosen(f)) {
                        merge(f);
                    }
                }
            }
            for (int i = 0; i < tests; i++) {
                due[i] = circuit.respond(ones[i], NONE);
            }
        }

        private boolean showsWithChosen(int f) {
            for (int i = 0; i < tests; i++) {
                if (showsWith(f, ones[i], free[i])) {
                    return true;
                }
            }
            return false;
        }

        private void merge(int f) {
            int itsFree = freeSources(f);
            int itsOnes = leastPattern(f) & ~itsFree;
            for (int i = 0; i < tests; i++) {
                if (((ones[i] ^ itsOnes) & ~(free[i] | itsFree)) == 0) {
                    ones[i] |= itsOnes;
                    free[i] &= itsFree;
                    return;
                }
            }
            ones[tests] = itsOnes;
            free[tests] = itsFree;
            tests++;
        }

        /** The free sources of the cube of f, which must be testable. */
        private int freeSources(int f) {
            int pattern = leastPattern(f);
            int itsFree = 0;
            for (int k = 0; k < circuit.sources(); k++) {
                if (showsWith(f, pattern, itsFree | (1 << k))) {
                    itsFree |= 1 << k;
                }
            }
            return itsFree;
        }

        /** Whether f shows with all patterns that are as this one but for the free sources. */
        private boolean showsWith(int f, int pattern, int freeOnes) {
            long within = patternsOfWord;
            for (int k = 0; k < WORD_SOURCES && k < circuit.sources(); k++) {
                if (((freeOnes >> k) & 1) == 0) {
                    within &= ((pattern >> k) & 1) != 0 ? Circuit.COLUMNS[k] : ~Circuit.COLUMNS[k];
                }
            }
            for (int w = 0; w < words; w++) {
                boolean isLeft = ((w ^ (pattern >> WORD_SOURCES)) & ~(freeOnes >> WORD_SOURCES)) == 0;
                if (isLeft && (within & ~showing[f * MOST_WORDS + w]) != 0) {
                    return false;
                }
            }
            return true;
        }
    }

    /** Flip-flops in a chain behind a port of sixteen states. */
    private static final class Chip {
        private static final int RESET = 0;
        private static final int IDLE = 1;
        private static final int CAPTURE_DATA = 3;
        private static final int SHIFT_DATA = 4;
        private static final int CAPTURE_CODE = 10;
        private static final int SHIFT_CODE = 11;
        private static final int UPDATE_CODE = 15;
        private static final int CHAIN_CODE = 1;
        private static final int FIRST_CODE = 3;

        /** The next state, for each state with tms 0, then with tms 1. */
        private static final int[] AFTER = {
            1, 0, 1, 2, 3, 9, 4, 5, 4, 5, 6, 8, 6, 7, 4, 8,
            1, 2, 10, 0, 11, 12, 11, 12, 13, 15, 13, 14, 11, 15, 1, 2
        };

        private final Circuit circuit;
        private int stuck = NONE;
        private int state = RESET;
        private int code = FIRST_CODE;
        private int held;
        private int beside;
        private int shifter;

        Chip(Circuit circuit) {
            this.circuit = circuit;
        }

        void renew(int f) {
            stuck = f;
            state = RESET;
            code = FIRST_CODE;
            held = 0;
            beside = 0;
            shifter = 0;
        }

        int outputs(int inputs) {
            return circuit.outputsOf(circuit.respond(patternWith(inputs), stuck));
        }

        int tdo(int tdi) {
            if (state == SHIFT_CODE) {
                return shifter & 1;
            }
            if (state != SHIFT_DATA) {
                return 0;
            }
            if (code != CHAIN_CODE) {
                return beside;
            }
            return circuit.flops == 0 ? tdi : (held >> (circuit.flops - 1)) & 1;
        }

        void pulse(int tms, int tdi, int inputs) {
            switch (state) {
                case RESET: code = FIRST_CODE; break;
                case IDLE: idle(inputs); break;
                case CAPTURE_DATA: capture(inputs); break;
                case SHIFT_DATA: shift(tdi); break;
                case CAPTURE_CODE: shifter = 1; break;
                case SHIFT_CODE: shifter = (shifter >> 1) | (tdi << 1); break;
                case UPDATE_CODE: code = shifter; break;
                default: break;
            }
            state = AFTER[2 * state + tms];
        }

        private int patternWith(int inputs) {
            return inputs | (held << circuit.inputs);
        }

        private void idle(int inputs) {
            if (code != CHAIN_CODE) {
                held = circuit.nextsOf(circuit.respond(patternWith(inputs), stuck));
            }
        }

        private void capture(int inputs) {
            if (code == CHAIN_CODE) {
                held = circuit.nextsOf(circuit.respond(patternWith(inputs), stuck));
            } else {
                beside = 0;
            }
        }

        private void shift(int tdi) {
            if (code == CHAIN_CODE) {
                held = ((held << 1) | tdi) & ((1 << circuit.flops) - 1);
            } else {
                beside = tdi;
            }
        }
    }

    /** The rows for the tests of a choice that is made, each worked out when it is asked for. */
    private static final class Program {
        private static final int ANYTHING = 2;

        /** From any state to code 1, and to state 2. */
        private static final int[] LEAD_TMS = {1, 1, 1, 1, 1, 0, 1, 1, 0, 0, 0, 1, 1, 1};
        private static final int[] LEAD_TDI = {0, 0, 0, 0, 0, 0, 0, 0, 0, 0, 1, 0, 0, 0};
        private static final int LEAD = 14;

        /** The steps of a test: select, capture, then a shift a flip-flop, exit, update. */
        private static final int CAPTURE = 1;
        private static final int FIRST_SHIFT = 2;
        private static final int STEPS_BESIDE_SHIFTS = 4;

        private final Circuit circuit;
        private final Choice choice;
        private final Chip trial;

        Program(Circuit circuit, Choice choice) {
            this.circuit = circuit;
            this.choice = choice;
            trial = new Chip(circuit);
        }

        int rowCount() {
            return LEAD + (choice.tests + 1) * stepsOfTest();
        }

        int tms(int i) {
            if (i < LEAD) {
                return LEAD_TMS[i];
            }
            return step(i) > circuit.flops ? 1 : 0;
        }

        int tdi(int i) {
            if (i < LEAD) {
                return LEAD_TDI[i];
            }
            if (!isShift(i) || turn(i) >= choice.tests) {
                return 0;
            }
            return (choice.ones[turn(i)] >> (circuit.inputs + flopOfShift(i))) & 1;
        }

        int inputs(int i) {
            return capturesTest(i) ? circuit.inputsOf(choice.ones[turn(i) - 1]) : 0;
        }

        int tdoDue(int i) {
            if (!isShift(i) || turn(i) == 0) {
                return ANYTHING;
            }
            return (circuit.nextsOf(choice.due[turn(i) - 1]) >> flopOfShift(i)) & 1;
        }

        int outputsDue(int i) {
            return capturesTest(i) ? circuit.outputsOf(choice.due[turn(i) - 1]) : NONE;
        }

        int failingRow(int f) {
            trial.renew(f);
            int rows = rowCount();
            for (int i = 0; i < rows; i++) {
                if (!showsWhatIsDue(i)) {
                    return i;
                }
                trial.pulse(tms(i), tdi(i), inputs(i));
            }
            return NONE;
        }

        private boolean showsWhatIsDue(int i) {
            int tdo = tdoDue(i);
            if (tdo != ANYTHING && tdo != trial.tdo(tdi(i))) {
                return false;
            }
            int outputs = outputsDue(i);
            return outputs == NONE || outputs == trial.outputs(inputs(i));
        }

        private int stepsOfTest() {
            return STEPS_BESIDE_SHIFTS + circuit.flops;
        }

        /** The test that a row behind the lead brings in; the one before it is looked at. */
        private int turn(int i) {
            return (i - LEAD) / stepsOfTest();
        }

        private int step(int i) {
            return (i - LEAD) % stepsOfTest();
        }

        private boolean isShift(int i) {
            return i >= LEAD && step(i) >= FIRST_SHIFT && step(i) < FIRST_SHIFT + circuit.flops;
        }

        private int flopOfShift(int i) {
            return circuit.flops - 1 - (step(i) - FIRST_SHIFT);
        }

        private boolean capturesTest(int i) {
            return i >= LEAD && step(i) == CAPTURE && turn(i) > 0;
        }
    }
}
