import java.util.ArrayList;
import java.util.Arrays;
import java.util.HashMap;
import java.util.List;
import java.util.Map;

/**
 * The document once more, word for word and without any care for speed: texts,
 * maps and one pattern at a time. ModelTest holds the program against it.
 */
final class Model {
    static final class Fault extends Exception {
        private static final long serialVersionUID = 1L;
        final int number;
        final int place;

        Fault(int number, int place) {
            this.number = number;
            this.place = place;
        }
    }

    private static final class Token {
        final String text;
        final int place;

        Token(String text, int place) {
            this.text = text;
            this.place = place;
        }
    }

    private static final List<String> OPERATIONS = Arrays.asList("and", "or", "xor", "nand", "nor", "not", "buf", "mux");

    final List<String> nets = new ArrayList<>();
    final List<String> inputs = new ArrayList<>();
    final List<String> flops = new ArrayList<>();
    final List<String> outputs = new ArrayList<>();
    final Map<String, List<String>> lines = new HashMap<>();
    final Map<String, String> nexts = new HashMap<>();
    final List<String> cubes = new ArrayList<>();
    final List<Integer> tests = new ArrayList<>();
    final List<int[]> rows = new ArrayList<>();
    private final List<Token> tokens = new ArrayList<>();
    private int at = 0;
    private boolean[][] showing;

    Model(String tape) throws Fault {
        cut(tape);
        parse();
        weigh();
        choose();
        write();
    }

    private static boolean isWordByte(char c) {
        return c >= 'a' && c <= 'z' || c >= '0' && c <= '9';
    }

    private void cut(String tape) {
        int k = 0;
        while (k < tape.length()) {
            int end = k + 1;
            while (isWordByte(tape.charAt(k)) && end < tape.length() && isWordByte(tape.charAt(end))) {
                end++;
            }
            if (tape.charAt(k) > 32) {
                tokens.add(new Token(tape.substring(k, end), k));
            }
            k = end;
        }
        tokens.add(new Token("", tape.length()));
    }

    private Token take() {
        Token t = tokens.get(at);
        at = Math.min(at + 1, tokens.size() - 1);
        return t;
    }

    private boolean isNext(String text) {
        return tokens.get(at).text.equals(text);
    }

    private void must(String text) throws Fault {
        if (!isNext(text)) {
            throw new Fault(1, tokens.get(at).place);
        }
        take();
    }

    private Token name() throws Fault {
        if (!tokens.get(at).text.matches("[a-z][0-9]?")) {
            throw new Fault(1, tokens.get(at).place);
        }
        return take();
    }

    private String used() throws Fault {
        Token t = name();
        if (!nets.contains(t.text)) {
            throw new Fault(2, t.place);
        }
        return t.text;
    }

    private void fresh(Token t, int most) throws Fault {
        if (nets.contains(t.text)) {
            throw new Fault(3, t.place);
        }
        if (nets.size() == most) {
            throw new Fault(4, t.place);
        }
    }

    private void sources(List<String> into) throws Fault {
        boolean more = !isNext(";");
        while (more) {
            Token t = name();
            fresh(t, 10);
            nets.add(t.text);
            into.add(t.text);
            more = isNext(",");
            if (more) {
                take();
            }
        }
        must(";");
    }

    private void parse() throws Fault {
        must("in");
        sources(inputs);
        must("ff");
        sources(flops);
        while (!isNext("out")) {
            Token t = name();
            if (isNext("=")) {
                operationLine(t);
            } else if (isNext("<")) {
                nextLine(t);
            } else {
                throw new Fault(1, tokens.get(at).place);
            }
        }
        take();
        boolean more = !isNext(";");
        while (more) {
            int place = tokens.get(at).place;
            String net = used();
            if (outputs.size() == 8) {
                throw new Fault(4, place);
            }
            outputs.add(net);
            more = isNext(",");
            if (more) {
                take();
            }
        }
        must(";");
        must("");
    }

    private void operationLine(Token t) throws Fault {
        fresh(t, 60);
        must("=");
        Token word = take();
        if (word.text.isEmpty() || word.text.charAt(0) < 'a' || word.text.charAt(0) > 'z') {
            throw new Fault(1, word.place);
        }
        int operation = OPERATIONS.indexOf(word.text);
        if (operation < 0) {
            throw new Fault(3, word.place);
        }
        int least = operation < 5 ? 2 : operation < 7 ? 1 : 3;
        int most = operation < 5 ? 5 : least;
        must("(");
        List<String> line = new ArrayList<>(List.of(word.text));
        while (true) {
            int place = tokens.get(at).place;
            line.add(used());
            int count = line.size() - 1;
            if (count == 5) {
                throw new Fault(4, place);
            }
            if (count >= least && isNext(")")) {
                break;
            }
            must(count < most ? "," : ")");
        }
        must(")");
        must(";");
        nets.add(t.text);
        lines.put(t.text, line);
    }

    private void nextLine(Token t) throws Fault {
        if (!flops.contains(t.text)) {
            throw new Fault(2, t.place);
        }
        if (nexts.containsKey(t.text)) {
            throw new Fault(3, t.place);
        }
        must("<");
        must("-");
        nexts.put(t.text, used());
        must(";");
    }

    int sources() {
        return inputs.size() + flops.size();
    }

    private boolean valueOf(int net, boolean[] known, List<String> line) {
        boolean a = known[nets.indexOf(line.get(1))];
        boolean all = true;
        boolean any = false;
        boolean odd = false;
        for (int k = 1; k < line.size(); k++) {
            boolean v = known[nets.indexOf(line.get(k))];
            all &= v;
            any |= v;
            odd ^= v;
        }
        switch (line.get(0)) {
            case "and": return all;
            case "nand": return !all;
            case "or": return any;
            case "nor": return !any;
            case "xor": return odd;
            case "not": return !a;
            case "buf": return a;
            default: return known[nets.indexOf(line.get(a ? 3 : 2))];
        }
    }

    int answer(int pattern, int f) {
        boolean[] known = new boolean[nets.size()];
        for (int net = 0; net < known.length; net++) {
            known[net] = net < sources() ? (pattern >> net & 1) == 1 : valueOf(net, known, lines.get(nets.get(net)));
            if (f >= 0 && net == f / 2) {
                known[net] = f % 2 == 1;
            }
        }
        int answer = 0;
        int bit = 0;
        for (String output : outputs) {
            answer |= known[nets.indexOf(output)] ? 1 << bit : 0;
            bit++;
        }
        for (int k = 0; k < flops.size(); k++) {
            String next = nexts.get(flops.get(k));
            boolean v = next == null ? (pattern >> inputs.size() + k & 1) == 1 : known[nets.indexOf(next)];
            answer |= v ? 1 << bit : 0;
            bit++;
        }
        return answer;
    }

    private void weigh() {
        showing = new boolean[2 * nets.size()][1 << sources()];
        for (int pattern = 0; pattern < 1 << sources(); pattern++) {
            int good = answer(pattern, -1);
            for (int f = 0; f < showing.length; f++) {
                showing[f][pattern] = answer(pattern, f) != good;
            }
        }
    }

    int count(int f) {
        int count = 0;
        for (boolean shown : showing[f]) {
            count += shown ? 1 : 0;
        }
        return count;
    }

    int least(int f) {
        for (int pattern = 0; pattern < showing[f].length; pattern++) {
            if (showing[f][pattern]) {
                return pattern;
            }
        }
        return -1;
    }

    private static boolean leaves(String cube, int pattern) {
        for (int k = 0; k < cube.length(); k++) {
            if (cube.charAt(k) != 'x' && cube.charAt(k) - '0' != (pattern >> k & 1)) {
                return false;
            }
        }
        return true;
    }

    private boolean showsWith(int f, String cube) {
        for (int pattern = 0; pattern < showing[f].length; pattern++) {
            if (leaves(cube, pattern) && !showing[f][pattern]) {
                return false;
            }
        }
        return true;
    }

    /** A character a source: 0, 1, or x where it is free; null when f isn't testable. */
    String cube(int f) {
        int least = least(f);
        if (least < 0) {
            return null;
        }
        StringBuilder cube = new StringBuilder();
        for (int k = 0; k < sources(); k++) {
            cube.append(least >> k & 1);
        }
        for (int k = 0; k < sources(); k++) {
            char had = cube.charAt(k);
            cube.setCharAt(k, 'x');
            if (!showsWith(f, cube.toString())) {
                cube.setCharAt(k, had);
            }
        }
        return cube.toString();
    }

    static int bits(String cube, char which) {
        int bits = 0;
        for (int k = 0; k < cube.length(); k++) {
            bits |= cube.charAt(k) == which ? 1 << k : 0;
        }
        return bits;
    }

    /** Both cubes in one, or null when they are against each other. */
    private static String both(String one, String other) {
        StringBuilder both = new StringBuilder();
        for (int k = 0; k < one.length(); k++) {
            char a = one.charAt(k);
            char b = other.charAt(k);
            if (a != 'x' && b != 'x' && a != b) {
                return null;
            }
            both.append(a == 'x' ? b : a);
        }
        return both.toString();
    }

    private void choose() {
        for (int f = 0; f < showing.length; f++) {
            String cube = cube(f);
            boolean open = cube != null;
            for (String chosen : cubes) {
                open = open && !showsWith(f, chosen);
            }
            for (int i = 0; i < cubes.size() && open; i++) {
                String both = both(cubes.get(i), cube);
                if (both != null) {
                    cubes.set(i, both);
                    open = false;
                }
            }
            if (open) {
                cubes.add(cube);
            }
        }
        for (String cube : cubes) {
            tests.add(bits(cube, '1'));
        }
    }

    int testable() {
        int count = 0;
        for (int f = 0; f < showing.length; f++) {
            count += count(f) > 0 ? 1 : 0;
        }
        return count;
    }

    private void plainRow(int tms) {
        rows.add(new int[] {tms, 0, 0, 2, -1});
    }

    private void write() {
        for (int tms : new int[] {1, 1, 1, 1, 1, 0, 1, 1, 0, 0}) {
            plainRow(tms);
        }
        rows.add(new int[] {0, 1, 0, 2, -1});
        for (int tms : new int[] {1, 1, 1}) {
            plainRow(tms);
        }
        for (int t = 0; t <= tests.size(); t++) {
            plainRow(0);
            int before = t > 0 ? answer(tests.get(t - 1), -1) : 0;
            int outputBits = (1 << outputs.size()) - 1;
            int inputBits = (1 << inputs.size()) - 1;
            rows.add(new int[] {flops.isEmpty() ? 1 : 0, 0, t > 0 ? tests.get(t - 1) & inputBits : 0, 2,
                t > 0 ? before & outputBits : -1});
            for (int flop = flops.size() - 1; flop >= 0; flop--) {
                int tdi = t < tests.size() ? tests.get(t) >> inputs.size() + flop & 1 : 0;
                rows.add(new int[] {flop == 0 ? 1 : 0, tdi, 0, t > 0 ? before >> outputs.size() + flop & 1 : 2, -1});
            }
            plainRow(1);
            plainRow(1);
        }
    }

    /** A chip of this circuit; its flip-flops are an array. */
    final class Piece {
        private final int stuck;
        final boolean[] held = new boolean[flops.size()];
        int state = 0;
        int code = 3;
        int shifter = 0;
        int beside = 0;

        Piece(int stuck) {
            this.stuck = stuck;
        }

        int heldBits() {
            int bits = 0;
            for (int k = 0; k < held.length; k++) {
                bits |= held[k] ? 1 << k : 0;
            }
            return bits;
        }

        private int answerNow(int pins) {
            return answer(pins | heldBits() << inputs.size(), stuck);
        }

        int outputsNow(int pins) {
            return answerNow(pins) & (1 << outputs.size()) - 1;
        }

        int tdoNow(int tdi) {
            if (state == 11) {
                return shifter % 2;
            }
            if (state == 4 && code == 1) {
                return held.length == 0 ? tdi : held[held.length - 1] ? 1 : 0;
            }
            return state == 4 ? beside : 0;
        }

        private void becomeNexts(int pins) {
            int nextBits = answerNow(pins) >> outputs.size();
            for (int k = 0; k < held.length; k++) {
                held[k] = (nextBits >> k & 1) == 1;
            }
        }

        void go(int tms, int tdi, int pins) {
            if (state == 0) {
                code = 3;
            } else if (state == 1 && code != 1 || state == 3 && code == 1) {
                becomeNexts(pins);
            } else if (state == 3) {
                beside = 0;
            } else if (state == 4 && code == 1) {
                for (int k = held.length - 1; k > 0; k--) {
                    held[k] = held[k - 1];
                }
                if (held.length > 0) {
                    held[0] = tdi == 1;
                }
            } else if (state == 4) {
                beside = tdi;
            } else if (state == 10) {
                shifter = 1;
            } else if (state == 11) {
                shifter = shifter / 2 + 2 * tdi;
            } else if (state == 15) {
                code = shifter;
            }
            String[] after = ("1 0,1 2,3 9,4 5,4 5,6 8,6 7,4 8,1 2,10 0,11 12,11 12,13 15,13 14,11 15,1 2").split(",");
            state = Integer.parseInt(after[state].split(" ")[tms]);
        }
    }

    int fails(int f) {
        Piece piece = new Piece(f);
        for (int i = 0; i < rows.size(); i++) {
            int[] row = rows.get(i);
            boolean tdoFine = row[3] == 2 || row[3] == piece.tdoNow(row[1]);
            boolean outputsFine = row[4] == -1 || row[4] == piece.outputsNow(row[2]);
            if (!tdoFine || !outputsFine) {
                return i;
            }
            piece.go(row[0], row[1], row[2]);
        }
        return -1;
    }
}
