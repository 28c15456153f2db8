import java.util.ArrayList;
import java.util.HashSet;
import java.util.List;
import java.util.NoSuchElementException;
import java.util.Set;
import java.util.TreeMap;
import java.util.TreeSet;

/**
 * The document once more, as its words stand and without a thought of speed: every fault is run by
 * itself, every way is gone through, nothing is done in words of bits. Calls of a StuckatBench are
 * held against it.
 */
final class Plain {
    private static final class Line {
        char kind;
        int a;
        int b;
        int data = -1;
        boolean isOutput;
        boolean isPoint;
        int tie = 2;
        int places;
    }

    private static final class Fault {
        char model;
        int line;
        int pin = -1;
        int value;
        int other = -1;
        int tally;
    }

    private static final class Row {
        int[] sources;
        int time = 1;
    }

    private final List<Line> lines = new ArrayList<>();
    private final List<Fault> faults = new ArrayList<>();
    private List<Row> rows = new ArrayList<>();
    private boolean closed;
    private int stuck;
    private int ringBits = 4;
    private int ringTaps = 12;
    private final List<Integer> chip = new ArrayList<>();
    private int chainPlace = -1;
    private int chainValue;
    private String march = "";
    private final boolean[][] badBits = new boolean[8][8];
    private int wires;
    private char wireKind;
    private int[] wireOpen = new int[0];
    private List<int[]> shorts = new ArrayList<>();
    private final List<int[]> cores = new ArrayList<>();

    int lineCount() {
        return lines.size();
    }

    int sourceCount() {
        return sources().size();
    }

    boolean isCell(int line) {
        return lines.get(line).kind == 'f';
    }

    // ---- checks

    private void line(int line) {
        if (line < 0 || line >= lines.size()) throw new IndexOutOfBoundsException();
    }

    private void fault(int fault) {
        if (fault < 0 || fault >= faults.size()) throw new IndexOutOfBoundsException();
    }

    private void stuckFault(int fault) {
        fault(fault);
        if (fault >= stuck) throw new IllegalArgumentException();
    }

    private void row(int pattern) {
        if (pattern < 0 || pattern >= rows.size()) throw new IndexOutOfBoundsException();
    }

    private void unsupportedIf(boolean is) {
        if (is) throw new UnsupportedOperationException();
    }

    private void illegalIf(boolean is) {
        if (is) throw new IllegalArgumentException();
    }

    private void stateIf(boolean is) {
        if (is) throw new IllegalStateException();
    }

    private void noneIf(boolean is) {
        if (is) throw new NoSuchElementException();
    }

    // ---- net

    private List<Integer> sources() {
        List<Integer> found = new ArrayList<>();
        for (int i = 0; i < lines.size(); i++) {
            if (lines.get(i).kind == 'i' || lines.get(i).kind == 'f') found.add(i);
        }
        return found;
    }

    private List<Integer> cells() {
        List<Integer> found = new ArrayList<>();
        for (int i = 0; i < lines.size(); i++) {
            if (lines.get(i).kind == 'f') found.add(i);
        }
        return found;
    }

    private List<Integer> observed() {
        TreeSet<Integer> found = new TreeSet<>();
        for (int i = 0; i < lines.size(); i++) {
            if (lines.get(i).isOutput || lines.get(i).isPoint) found.add(i);
            if (lines.get(i).data >= 0) found.add(lines.get(i).data);
        }
        return new ArrayList<>(found);
    }

    private int addLine(char kind, int a, int b) {
        Line line = new Line();
        line.kind = kind;
        line.a = a;
        line.b = b;
        lines.add(line);
        return lines.size() - 1;
    }

    int input() {
        unsupportedIf(closed);
        stateIf(lines.size() >= 40 || sources().size() >= 12);
        return addLine('i', -1, -1);
    }

    int cell() {
        unsupportedIf(closed);
        stateIf(lines.size() >= 40 || sources().size() >= 12);
        return addLine('f', -1, -1);
    }

    int gate(char kind, int first, int second) {
        illegalIf("aonrxbv".indexOf(kind) < 0);
        line(first);
        if ("aonrx".indexOf(kind) >= 0) line(second);
        unsupportedIf(closed);
        stateIf(lines.size() >= 40);
        return addLine(kind, first, "aonrx".indexOf(kind) >= 0 ? second : -1);
    }

    int data(int cell, int line) {
        line(cell);
        line(line);
        unsupportedIf(closed || lines.get(cell).kind != 'f');
        int before = lines.get(cell).data;
        lines.get(cell).data = line;
        return before;
    }

    boolean output(int line) {
        line(line);
        unsupportedIf(closed);
        boolean was = lines.get(line).isOutput;
        lines.get(line).isOutput = true;
        return !was;
    }

    int close() {
        unsupportedIf(closed);
        for (int c : cells()) unsupportedIf(lines.get(c).data < 0);
        unsupportedIf(observed().isEmpty());
        closed = true;
        for (Line line : lines) {
            if (line.a >= 0) lines.get(line.a).places++;
            if (line.b >= 0) lines.get(line.b).places++;
            if (line.data >= 0) lines.get(line.data).places++;
            if (line.isOutput) line.places++;
        }
        for (int i = 0; i < lines.size(); i++) {
            addStuck(i, -1);
            Line line = lines.get(i);
            if (line.a >= 0 && lines.get(line.a).places >= 2) addStuck(i, 0);
            if (line.b >= 0 && lines.get(line.b).places >= 2) addStuck(i, 1);
        }
        stuck = faults.size();
        return stuck;
    }

    private void addStuck(int line, int pin) {
        for (int value = 0; value < 2; value++) {
            Fault fault = new Fault();
            fault.model = 's';
            fault.line = line;
            fault.pin = pin;
            fault.value = value;
            faults.add(fault);
        }
    }

    int testPoint(int line) {
        line(line);
        unsupportedIf(!closed);
        lines.get(line).isPoint = true;
        return observed().size();
    }

    // ---- runs

    /** What a gate gives if it gives the same for all that its unknown inputs can be. */
    private static int gateValue(char kind, int a, int b) {
        Set<Integer> all = new HashSet<>();
        for (int x = 0; x < 2; x++) {
            for (int y = 0; y < 2; y++) {
                if ((a == 2 || a == x) && (b == 2 || b == y)) {
                    boolean p = x == 1;
                    boolean q = y == 1;
                    boolean r;
                    switch (kind) {
                        case 'a': r = p && q; break;
                        case 'o': r = p || q; break;
                        case 'n': r = !(p && q); break;
                        case 'r': r = !(p || q); break;
                        case 'x': r = p != q; break;
                        case 'b': r = p; break;
                        default: r = !p; break;
                    }
                    all.add(r ? 1 : 0);
                }
            }
        }
        return all.size() == 1 ? all.iterator().next() : 2;
    }

    /** The values of all lines with some stuck faults, later ones in the place of earlier ones. */
    private int[] run(int[] given, List<Fault> with) {
        int[] values = new int[lines.size()];
        int source = 0;
        for (int i = 0; i < lines.size(); i++) {
            Line line = lines.get(i);
            int value;
            if (line.kind == 'i' || line.kind == 'f') {
                value = given[source++];
            } else {
                int a = values[line.a];
                int b = line.b < 0 ? 2 : values[line.b];
                for (Fault fault : with) {
                    if (fault.line == i && fault.pin == 0) a = fault.value;
                    if (fault.line == i && fault.pin == 1) b = fault.value;
                }
                value = gateValue(line.kind, a, b);
            }
            if (line.tie != 2) value = line.tie;
            for (Fault fault : with) {
                if (fault.line == i && fault.pin == -1) value = fault.value;
            }
            values[i] = value;
        }
        return values;
    }

    private int[] runBridge(int[] given, Fault bridge) {
        int[] good = run(given, List.of());
        int a = good[bridge.line];
        int b = good[bridge.other];
        int first = bridge.model == 'w' ? gateValue('a', a, b) : bridge.model == 'u' ? gateValue('o', a, b) : a;
        Fault one = new Fault();
        one.line = bridge.line;
        one.value = first;
        Fault two = new Fault();
        two.line = bridge.other;
        two.value = first;
        return run(given, List.of(one, two));
    }

    private int[] runWith(int[] ahead, int[] given, Fault fault) {
        if (fault.model == 's') return run(given, List.of(fault));
        if (fault.model != 'l') return runBridge(given, fault);
        boolean acts = ahead != null && run(ahead, List.of())[fault.line] == fault.value;
        return acts ? run(given, List.of(fault)) : run(given, List.of());
    }

    private boolean differ(int[] good, int[] bad) {
        for (int line : observed()) {
            if (good[line] == 0 && bad[line] == 1 || good[line] == 1 && bad[line] == 0) return true;
        }
        return false;
    }

    private int[] ahead(int pattern) {
        return pattern == 0 ? null : rows.get(pattern - 1).sources;
    }

    private boolean isFound(int fault, int pattern) {
        int[] given = rows.get(pattern).sources;
        return differ(run(given, List.of()), runWith(ahead(pattern), given, faults.get(fault)));
    }

    private boolean isFoundBySources(int fault, int[] given) {
        return differ(run(given, List.of()), runWith(null, given, faults.get(fault)));
    }

    int pattern(int known, int ones) {
        int all = (1 << sources().size()) - 1;
        illegalIf((known | all) != all || (known | ones) != known);
        unsupportedIf(!closed);
        stateIf(rows.size() >= 32);
        Row row = new Row();
        row.sources = new int[sources().size()];
        for (int k = 0; k < row.sources.length; k++) {
            row.sources[k] = (known >> k & 1) == 0 ? 2 : ones >> k & 1;
        }
        rows.add(row);
        return rows.size() - 1;
    }

    int value(int pattern, int line) {
        row(pattern);
        line(line);
        return run(rows.get(pattern).sources, List.of())[line];
    }

    int faulty(int pattern, int line, int fault) {
        row(pattern);
        line(line);
        fault(fault);
        return runWith(ahead(pattern), rows.get(pattern).sources, faults.get(fault))[line];
    }

    int faults() {
        return faults.size();
    }

    int lineOf(int fault) {
        fault(fault);
        return faults.get(fault).line;
    }

    int pinOf(int fault) {
        fault(fault);
        return faults.get(fault).pin;
    }

    // ---- likes

    private int stuckAt(int line, int pin, int value) {
        for (int f = 0; f < stuck; f++) {
            Fault fault = faults.get(f);
            if (fault.line == line && fault.pin == pin && fault.value == value) return f;
        }
        return -1;
    }

    private int inputFault(int gate, int pin, int value) {
        int atPin = stuckAt(gate, pin, value);
        if (atPin >= 0) return atPin;
        Line from = lines.get(pin == 0 ? lines.get(gate).a : lines.get(gate).b);
        int from1 = pin == 0 ? lines.get(gate).a : lines.get(gate).b;
        return from.places + (from.isPoint ? 1 : 0) == 1 ? stuckAt(from1, -1, value) : -1;
    }

    private int[] labels() {
        List<int[]> pairs = new ArrayList<>();
        for (int g = 0; g < lines.size(); g++) {
            Line gate = lines.get(g);
            if (gate.a < 0 || gate.tie != 2) continue;
            for (int pin = 0; pin < (gate.b < 0 ? 1 : 2); pin++) {
                for (int value = 0; value < 2; value++) {
                    int to = -1;
                    if (gate.kind == 'a' && value == 0) to = 0;
                    if (gate.kind == 'n' && value == 0) to = 1;
                    if (gate.kind == 'o' && value == 1) to = 1;
                    if (gate.kind == 'r' && value == 1) to = 0;
                    if (gate.kind == 'b') to = value;
                    if (gate.kind == 'v') to = 1 - value;
                    int in = inputFault(g, pin, value);
                    if (to >= 0 && in >= 0) pairs.add(new int[] {in, stuckAt(g, -1, to)});
                }
            }
        }
        int[] label = new int[faults.size()];
        for (int f = 0; f < label.length; f++) label[f] = f;
        for (boolean again = true; again;) {
            again = false;
            for (int[] pair : pairs) {
                int low = Math.min(label[pair[0]], label[pair[1]]);
                again |= label[pair[0]] != low || label[pair[1]] != low;
                label[pair[0]] = low;
                label[pair[1]] = low;
            }
        }
        return label;
    }

    private List<Integer> classList() {
        int[] label = labels();
        List<Integer> heads = new ArrayList<>();
        for (int f = 0; f < stuck; f++) {
            if (label[f] == f) heads.add(f);
        }
        return heads;
    }

    int alike(int fault) {
        fault(fault);
        return labels()[fault];
    }

    int classes() {
        return classList().size();
    }

    private boolean depends(int line, int on) {
        if (line == on) return true;
        Line at = lines.get(line);
        return at.a >= 0 && depends(at.a, on) || at.b >= 0 && depends(at.b, on);
    }

    private int countOf(String models) {
        int many = 0;
        for (Fault fault : faults) {
            if (models.indexOf(fault.model) >= 0) many++;
        }
        return many;
    }

    int bridge(char kind, int first, int second) {
        illegalIf("wud".indexOf(kind) < 0);
        line(first);
        line(second);
        unsupportedIf(!closed || first == second || depends(first, second) || depends(second, first));
        stateIf(countOf("wud") >= 8);
        Fault fault = new Fault();
        fault.model = kind;
        fault.line = first;
        fault.other = second;
        faults.add(fault);
        return faults.size() - 1;
    }

    int slow(int line, boolean isRising) {
        line(line);
        unsupportedIf(!closed);
        stateIf(countOf("l") >= 8);
        Fault fault = new Fault();
        fault.model = 'l';
        fault.line = line;
        fault.value = isRising ? 0 : 1;
        faults.add(fault);
        return faults.size() - 1;
    }

    private boolean allKnown(int pattern) {
        for (int value : rows.get(pattern).sources) {
            if (value == 2) return false;
        }
        return true;
    }

    private boolean isFoundBy(char engine, int fault, int pattern) {
        return (engine != 'd' || fault >= stuck || allKnown(pattern)) && isFound(fault, pattern);
    }

    boolean finds(int fault, int pattern, char engine) {
        fault(fault);
        row(pattern);
        illegalIf("spd".indexOf(engine) < 0);
        return isFoundBy(engine, fault, pattern);
    }

    long foundBy(int fault) {
        fault(fault);
        long sum = 0;
        for (int p = 0; p < rows.size(); p++) {
            if (isFound(fault, p)) sum += 1L << p;
        }
        return sum;
    }

    float coverage(char engine) {
        illegalIf("spd".indexOf(engine) < 0);
        List<Integer> heads = classList();
        if (heads.isEmpty()) throw new ArithmeticException();
        int many = 0;
        for (int head : heads) {
            boolean is = false;
            for (int p = 0; p < rows.size(); p++) is |= isFoundBy(engine, head, p);
            if (is) many++;
        }
        return (float) ((double) many / heads.size());
    }

    double meanFound() {
        List<Integer> heads = classList();
        if (heads.isEmpty()) throw new ArithmeticException();
        int sum = 0;
        for (int head : heads) sum += Long.bitCount(foundBy(head));
        return (double) sum / (double) heads.size();
    }

    // ---- made

    private int[] search(int fault, int[] given, int depth) {
        if (isFoundBySources(fault, given)) return given.clone();
        if (depth == given.length) return null;
        for (int value = 0; value < 2; value++) {
            given[depth] = value;
            int[] found = search(fault, given, depth + 1);
            if (found != null) return found;
        }
        given[depth] = 2;
        return null;
    }

    private int[] made(int fault) {
        int[] given = new int[sources().size()];
        java.util.Arrays.fill(given, 2);
        return search(fault, given, 0);
    }

    int make(int fault) {
        fault(fault);
        illegalIf(faults.get(fault).model == 'l');
        int[] found = made(fault);
        noneIf(found == null);
        stateIf(rows.size() >= 32);
        Row row = new Row();
        row.sources = found;
        rows.add(row);
        return rows.size() - 1;
    }

    private int[] wayOf(int number) {
        int[] given = new int[sources().size()];
        for (int k = 0; k < given.length; k++) given[k] = number >> k & 1;
        return given;
    }

    private int countWays(int fault) {
        int many = 0;
        for (int way = 0; way < 1 << sources().size(); way++) {
            if (isFoundBySources(fault, wayOf(way))) many++;
        }
        return many;
    }

    boolean isImpossible(int fault) {
        fault(fault);
        illegalIf(faults.get(fault).model == 'l');
        return countWays(fault) == 0;
    }

    int tie(int fault) {
        stuckFault(fault);
        illegalIf(faults.get(fault).pin >= 0);
        Line line = lines.get(faults.get(fault).line);
        unsupportedIf(line.tie != 2 || countWays(fault) != 0);
        line.tie = faults.get(fault).value;
        int many = 0;
        for (Line each : lines) {
            if (each.tie != 2) many++;
        }
        return many;
    }

    private boolean canMerge(Row one, Row two) {
        for (int k = 0; k < one.sources.length; k++) {
            if (one.sources[k] + two.sources[k] == 1) return false;
        }
        return true;
    }

    private void mergeRows(Row one, Row two) {
        for (int k = 0; k < one.sources.length; k++) {
            if (one.sources[k] == 2) one.sources[k] = two.sources[k];
        }
    }

    int merge(int first, int second) {
        row(first);
        row(second);
        unsupportedIf(first == second || !canMerge(rows.get(first), rows.get(second)));
        mergeRows(rows.get(first), rows.get(second));
        rows.remove(second);
        return rows.size();
    }

    int mergeAll() {
        List<Row> left = new ArrayList<>();
        for (Row row : rows) {
            Row host = null;
            for (Row each : left) {
                if (host == null && canMerge(each, row)) host = each;
            }
            if (host == null) {
                left.add(row);
            } else {
                mergeRows(host, row);
            }
        }
        rows = left;
        return rows.size();
    }

    int turnAbout() {
        Set<Integer> found = new HashSet<>();
        List<Integer> heads = classList();
        Set<Integer> left = new TreeSet<>();
        for (int p = rows.size() - 1; p >= 0; p--) {
            boolean isNew = false;
            for (int head : heads) isNew |= isFound(head, p) && !found.contains(head);
            if (!isNew) continue;
            left.add(p);
            for (int head : heads) {
                if (isFound(head, p)) found.add(head);
            }
        }
        List<Row> kept = new ArrayList<>();
        for (int p : left) kept.add(rows.get(p));
        rows = kept;
        return rows.size();
    }

    int fill(int pattern, char how) {
        row(pattern);
        illegalIf("zoa".indexOf(how) < 0);
        int[] given = rows.get(pattern).sources;
        int many = 0;
        for (int k = 0; k < given.length; k++) {
            if (given[k] != 2) continue;
            many++;
            given[k] = how == 'z' ? 0 : how == 'o' ? 1 : k == 0 ? 0 : given[k - 1];
        }
        return many;
    }

    int power(int pattern) {
        row(pattern);
        int[] given = rows.get(pattern).sources;
        int sum = 0;
        for (int k = 1; k < given.length; k++) {
            if (given[k] + given[k - 1] == 1 && given[k] != 2 && given[k - 1] != 2) sum += k;
        }
        return sum;
    }

    int patterns() {
        return rows.size();
    }

    int known(int pattern, boolean areOnes) {
        row(pattern);
        int sum = 0;
        int[] given = rows.get(pattern).sources;
        for (int k = 0; k < given.length; k++) {
            if (given[k] == 1 || !areOnes && given[k] == 0) sum += 1 << k;
        }
        return sum;
    }

    // ---- rings

    private boolean[] ringOf(int seed) {
        boolean[] ring = new boolean[ringBits];
        for (int i = 0; i < ringBits; i++) ring[i] = (seed >> i & 1) != 0;
        return ring;
    }

    private boolean[] step(boolean[] ring) {
        boolean in = false;
        for (int i = 0; i < ringBits; i++) in ^= ring[i] && (ringTaps >> i & 1) != 0;
        boolean[] next = new boolean[ringBits];
        next[0] = in;
        for (int i = 1; i < ringBits; i++) next[i] = ring[i - 1];
        return next;
    }

    int setRing(int bits, int taps) {
        illegalIf(bits < 2 || bits > 16 || taps < 1 || taps >= 1 << bits);
        ringBits = bits;
        ringTaps = taps;
        boolean[] one = ringOf(1);
        boolean[] ring = one;
        for (int steps = 1; steps <= 1 << bits; steps++) {
            ring = step(ring);
            if (java.util.Arrays.equals(ring, one)) return steps;
        }
        return 0;
    }

    int seedFor(int pattern) {
        row(pattern);
        int[] given = rows.get(pattern).sources;
        for (int seed = 0; seed < 1 << ringBits; seed++) {
            boolean[] ring = ringOf(seed);
            boolean is = true;
            for (int k = 0; k < given.length && is; k++) {
                ring = step(ring);
                is = given[k] == 2 || given[k] == (ring[0] ? 1 : 0);
            }
            if (is) return seed;
        }
        throw new NoSuchElementException();
    }

    private int signed(Fault fault) {
        boolean[] ring = ringOf(0);
        List<Integer> watched = observed();
        for (Row row : rows) {
            ring = step(ring);
            int[] values = run(row.sources, fault == null ? List.of() : List.of(fault));
            for (int j = 0; j < watched.size(); j++) {
                if (values[watched.get(j)] == 1) ring[j % ringBits] ^= true;
            }
        }
        int sum = 0;
        for (int i = 0; i < ringBits; i++) sum += ring[i] ? 1 << i : 0;
        return sum;
    }

    int signature(int fault) {
        if (fault != -1) stuckFault(fault);
        return signed(fault == -1 ? null : faults.get(fault));
    }

    int aliased() {
        int many = 0;
        for (int head : classList()) {
            if (foundBy(head) != 0 && signed(faults.get(head)) == signed(null)) many++;
        }
        return many;
    }

    int chance(int seed, int many) {
        illegalIf(seed < 0 || seed > 65535 || many < 1 || many > 200);
        unsupportedIf(!closed);
        Set<Integer> found = new HashSet<>();
        List<Integer> heads = classList();
        boolean[] ring = ringOf(seed);
        for (int p = 0; p < many; p++) {
            int[] given = new int[sources().size()];
            for (int k = 0; k < given.length; k++) {
                ring = step(ring);
                given[k] = ring[0] ? 1 : 0;
            }
            for (int head : heads) {
                if (!found.contains(head) && isFoundBySources(head, given)) found.add(head);
            }
        }
        return found.size();
    }

    int weight(int line) {
        line(line);
        unsupportedIf(!closed);
        int many = 0;
        for (int way = 0; way < 1 << sources().size(); way++) {
            many += run(wayOf(way), List.of())[line];
        }
        return many;
    }

    int ways(int fault) {
        stuckFault(fault);
        return countWays(fault);
    }

    int hardest() {
        int best = -1;
        int fewest = Integer.MAX_VALUE;
        for (int head : classList()) {
            int many = countWays(head);
            if (many > 0 && many < fewest) {
                best = head;
                fewest = many;
            }
        }
        noneIf(best < 0);
        return best;
    }

    // ---- chip

    int breakChip(int fault) {
        stuckFault(fault);
        stateIf(chip.size() >= 2);
        chip.add(fault);
        return chip.size();
    }

    int mend() {
        int before = chip.size();
        chip.clear();
        return before;
    }

    private Set<List<Integer>> failsWith(List<Fault> with) {
        Set<List<Integer>> found = new HashSet<>();
        List<Integer> watched = observed();
        for (int p = 0; p < rows.size(); p++) {
            int[] good = run(rows.get(p).sources, List.of());
            int[] bad = run(rows.get(p).sources, with);
            for (int j = 0; j < watched.size(); j++) {
                int g = good[watched.get(j)];
                int b = bad[watched.get(j)];
                if (g != 2 && b != 2 && g != b) found.add(List.of(p, j));
            }
        }
        return found;
    }

    private Set<List<Integer>> chipFails() {
        List<Fault> with = new ArrayList<>();
        for (int fault : chip) with.add(faults.get(fault));
        return failsWith(with);
    }

    long fails(int pattern) {
        row(pattern);
        long sum = 0;
        for (List<Integer> fail : chipFails()) {
            if (fail.get(0) == pattern) sum += 1L << fail.get(1);
        }
        return sum;
    }

    private int wrongOf(int head) {
        Set<List<Integer>> real = chipFails();
        Set<List<Integer>> own = failsWith(List.of(faults.get(head)));
        int many = 0;
        for (List<Integer> fail : real) many += own.contains(fail) ? 0 : 1;
        for (List<Integer> fail : own) many += real.contains(fail) ? 0 : 1;
        return many;
    }

    private List<Integer> candidates() {
        TreeMap<Integer, TreeSet<Integer>> byWrong = new TreeMap<>();
        Set<List<Integer>> real = chipFails();
        for (int head : classList()) {
            Set<List<Integer>> own = failsWith(List.of(faults.get(head)));
            own.retainAll(real);
            if (!own.isEmpty()) byWrong.computeIfAbsent(wrongOf(head), k -> new TreeSet<>()).add(head);
        }
        List<Integer> all = new ArrayList<>();
        for (TreeSet<Integer> each : byWrong.values()) all.addAll(each);
        return all;
    }

    int candidate(int index) {
        List<Integer> all = candidates();
        noneIf(index < 0 || index >= all.size());
        return all.get(index);
    }

    int wrong(int fault) {
        stuckFault(fault);
        return wrongOf(labels()[fault]);
    }

    private int tallyOf(int head) {
        int[] label = labels();
        int sum = 0;
        for (int f = 0; f < stuck; f++) {
            if (label[f] == head) sum += faults.get(f).tally;
        }
        return sum;
    }

    int record() {
        List<Integer> all = candidates();
        noneIf(all.isEmpty());
        faults.get(all.get(0)).tally++;
        return tallyOf(all.get(0));
    }

    int tally(int fault) {
        stuckFault(fault);
        return tallyOf(labels()[fault]);
    }

    // ---- chain

    int breakChain(int place, int value) {
        illegalIf(place < -1 || place >= cells().size() || value < 0 || value > 1);
        unsupportedIf(!closed);
        int before = chainPlace;
        chainPlace = place;
        chainValue = value;
        return before;
    }

    private int[] seenOf(int pattern, int place) {
        List<Integer> chain = cells();
        int[] given = rows.get(pattern).sources.clone();
        if (place >= 0) {
            for (int q = place; q < chain.size(); q++) given[sources().indexOf(chain.get(q))] = chainValue;
        }
        int[] values = run(given, List.of());
        int[] seen = new int[chain.size()];
        for (int q = 0; q < seen.length; q++) {
            seen[q] = q <= place ? chainValue : values[lines.get(chain.get(q)).data];
        }
        return seen;
    }

    int seen(int pattern, int place) {
        row(pattern);
        if (place < 0 || place >= cells().size()) throw new IndexOutOfBoundsException();
        return seenOf(pattern, chainPlace)[place];
    }

    int suspects() {
        if (chainPlace < 0) return 0;
        int sum = 0;
        for (int q = 0; q < cells().size(); q++) {
            boolean is = true;
            for (int p = 0; p < rows.size(); p++) {
                is &= java.util.Arrays.equals(seenOf(p, q), seenOf(p, chainPlace));
            }
            if (is) sum += 1 << q;
        }
        return sum;
    }

    int cycles() {
        return (cells().size() + 1) * rows.size() + cells().size();
    }

    // ---- order

    int setTime(int pattern, int time) {
        row(pattern);
        illegalIf(time < 1 || time > 99);
        int before = rows.get(pattern).time;
        rows.get(pattern).time = time;
        return before;
    }

    private List<Integer> orderList() {
        List<Integer> order = new ArrayList<>();
        Set<Integer> found = new HashSet<>();
        List<Integer> heads = classList();
        while (order.size() < rows.size()) {
            int best = -1;
            java.math.BigInteger top = null;
            java.math.BigInteger all = java.math.BigInteger.ONE;
            for (int t = 2; t <= 99; t++) all = all.multiply(java.math.BigInteger.valueOf(t));
            for (int p = 0; p < rows.size(); p++) {
                if (order.contains(p)) continue;
                int sum = 0;
                for (int head : heads) {
                    if (!found.contains(head) && isFound(head, p)) sum += tallyOf(head) + 1;
                }
                java.math.BigInteger share = java.math.BigInteger.valueOf(sum).multiply(all)
                    .divide(java.math.BigInteger.valueOf(rows.get(p).time));
                if (top == null || share.compareTo(top) > 0) {
                    top = share;
                    best = p;
                }
            }
            order.add(best);
            for (int head : heads) {
                if (isFound(head, best)) found.add(head);
            }
        }
        return order;
    }

    int orderAt(int index) {
        noneIf(index < 0 || index >= rows.size());
        return orderList().get(index);
    }

    int escapes(int many) {
        illegalIf(many < 0 || many > rows.size());
        List<Integer> order = orderList().subList(0, many);
        int sum = 0;
        for (int head : classList()) {
            boolean is = false;
            for (int p : order) is |= isFound(head, p);
            if (!is) sum += tallyOf(head);
        }
        return sum;
    }

    // ---- memories

    int march(char sign) {
        illegalIf("^v01zo".indexOf(sign) < 0);
        stateIf(march.length() >= 24);
        march += sign;
        return march.length();
    }

    int eraseMarch() {
        int before = march.length();
        march = "";
        return before;
    }

    /** Whether some read is not as wanted. */
    private boolean misreads(int start, char kind, int a, int b, int v, int w) {
        int[] memory = new int[8];
        java.util.Arrays.fill(memory, start);
        boolean isWrong = false;
        int from = 0;
        while (from < march.length()) {
            int to = from + 1;
            while (to < march.length() && "^v".indexOf(march.charAt(to)) < 0) to++;
            String body = march.substring(from + 1, to);
            for (int i = 0; i < 8; i++) {
                int cell = march.charAt(from) == '^' ? i : 7 - i;
                for (char sign : body.toCharArray()) {
                    int at = kind == 'a' && cell == a ? b : cell;
                    if (sign == '0' || sign == '1') {
                        int old = kind == 's' && at == a ? v : memory[at];
                        int now = sign - '0';
                        if (!(kind == 't' && at == a && now == v)) memory[at] = now;
                        if (kind == 'c' && at == a && old == 1 - v && now == v) memory[b] = w;
                        if (kind == 'i' && at == a && old == 1 - v && now == v) memory[b] = 1 - memory[b];
                    } else {
                        int read = kind == 's' && at == a ? v : memory[at];
                        isWrong |= read != (sign == 'z' ? 0 : 1);
                    }
                }
            }
            from = to;
        }
        return isWrong;
    }

    boolean isRight() {
        return !march.isEmpty() && "^v".indexOf(march.charAt(0)) >= 0
            && !misreads(0, '-', -1, -1, 0, 0) && !misreads(1, '-', -1, -1, 0, 0);
    }

    private boolean marchFound(char kind, int a, int b, int v, int w) {
        return misreads(0, kind, a, b, v, w) && misreads(1, kind, a, b, v, w);
    }

    boolean marchFinds(char kind, int a, int b, int v, int w) {
        illegalIf("stcia".indexOf(kind) < 0 || a < 0 || a > 7);
        if ("cia".indexOf(kind) >= 0) illegalIf(b < 0 || b > 7 || a == b);
        if (kind != 'a') illegalIf(v < 0 || v > 1);
        if (kind == 'c') illegalIf(w < 0 || w > 1);
        unsupportedIf(!isRight());
        return marchFound(kind, a, b, v, w);
    }

    int marchCount(char kind) {
        illegalIf("stcia".indexOf(kind) < 0);
        unsupportedIf(!isRight());
        int many = 0;
        for (int a = 0; a < 8; a++) {
            for (int b = 0; b < 8; b++) {
                for (int v = 0; v < 2; v++) {
                    for (int w = 0; w < 2; w++) {
                        if ("st".indexOf(kind) >= 0 && b > 0 || "cia".indexOf(kind) >= 0 && a == b) continue;
                        if (kind == 'a' && v > 0 || kind != 'c' && w > 0) continue;
                        if (marchFound(kind, a, b, v, w)) many++;
                    }
                }
            }
        }
        return many;
    }

    int bad(int row, int column, boolean isBad) {
        if (row < 0 || row > 7 || column < 0 || column > 7) throw new IndexOutOfBoundsException();
        badBits[row][column] = isBad;
        int many = 0;
        for (boolean[] each : badBits) {
            for (boolean bit : each) many += bit ? 1 : 0;
        }
        return many;
    }

    int repair(int rowSpares, int columnSpares) {
        illegalIf(rowSpares < 0 || rowSpares > 8 || columnSpares < 0 || columnSpares > 8);
        long best = Long.MAX_VALUE;
        for (int r = 0; r < 256; r++) {
            for (int c = 0; c < 256; c++) {
                if (Integer.bitCount(r) > rowSpares || Integer.bitCount(c) > columnSpares) continue;
                boolean is = true;
                for (int i = 0; i < 8 && is; i++) {
                    for (int j = 0; j < 8; j++) {
                        is &= !badBits[i][j] || (r >> i & 1) != 0 || (c >> j & 1) != 0;
                    }
                }
                if (is) best = Math.min(best, (Integer.bitCount(r) + Integer.bitCount(c)) * 65536L + r * 256 + c);
            }
        }
        noneIf(best == Long.MAX_VALUE);
        return (int) (best % 65536 / 256);
    }

    // ---- boards

    int board(int many, char kind) {
        illegalIf(many < 1 || many > 12 || kind != 'a' && kind != 'o');
        int before = wires;
        wires = many;
        wireKind = kind;
        wireOpen = new int[many];
        java.util.Arrays.fill(wireOpen, 2);
        shorts = new ArrayList<>();
        return before;
    }

    private void wire(int wire) {
        if (wire < 0 || wire >= wires) throw new IndexOutOfBoundsException();
    }

    boolean openWire(int wire, int value) {
        wire(wire);
        illegalIf(value < 0 || value > 1);
        boolean was = wireOpen[wire] != 2;
        wireOpen[wire] = value;
        return !was;
    }

    private Set<Integer> hang(int wire, boolean throughOpen) {
        Set<Integer> group = new TreeSet<>();
        group.add(wire);
        for (int again = 0; again < 20; again++) {
            for (int[] pair : shorts) {
                if (!throughOpen && (wireOpen[pair[0]] != 2 || wireOpen[pair[1]] != 2)) continue;
                if (group.contains(pair[0])) group.add(pair[1]);
                if (group.contains(pair[1])) group.add(pair[0]);
            }
        }
        return group;
    }

    int shortWires(int wire, int other) {
        wire(wire);
        wire(other);
        illegalIf(wire == other);
        shorts.add(new int[] {wire, other});
        return hang(wire, true).size();
    }

    private String sentCode(int wire, char code) {
        int length = Integer.toBinaryString(wires + 1).length();
        StringBuilder text = new StringBuilder();
        for (int i = 0; i < length; i++) text.append((wire + 1) >> i & 1);
        if (code == 't') {
            for (int i = 0; i < length; i++) text.append(1 - ((wire + 1) >> i & 1));
        }
        return text.toString();
    }

    private String gotCode(int wire, char code) {
        if (wireOpen[wire] != 2) {
            return sentCode(wire, code).replace('0', 'x').replace('1', 'x').replace('x', (char) ('0' + wireOpen[wire]));
        }
        char[] bits = sentCode(wire, code).toCharArray();
        for (int other : hang(wire, false)) {
            String sent = sentCode(other, code);
            for (int i = 0; i < bits.length; i++) {
                if (wireKind == 'a' && sent.charAt(i) == '0') bits[i] = '0';
                if (wireKind == 'o' && sent.charAt(i) == '1') bits[i] = '1';
            }
        }
        return new String(bits);
    }

    int got(int wire, char code) {
        wire(wire);
        illegalIf(code != 'c' && code != 't');
        String bits = gotCode(wire, code);
        int sum = 0;
        for (int i = 0; i < bits.length(); i++) sum += (bits.charAt(i) - '0') << i;
        return sum;
    }

    int badWires(char code) {
        illegalIf(code != 'c' && code != 't');
        int sum = 0;
        for (int wire = 0; wire < wires; wire++) {
            if (!gotCode(wire, code).equals(sentCode(wire, code))) sum += 1 << wire;
        }
        return sum;
    }

    int sameAs(int wire, char code) {
        wire(wire);
        illegalIf(code != 'c' && code != 't');
        int many = 0;
        for (int other = 0; other < wires; other++) {
            if (gotCode(other, code).equals(gotCode(wire, code))) many++;
        }
        return many;
    }

    // ---- cores

    int core(int time, int width, int power) {
        illegalIf(time < 1 || time > 999 || width < 1 || width > 64 || power < 0 || power > 999);
        stateIf(cores.size() >= 6);
        cores.add(new int[] {time, width, power});
        return cores.size() - 1;
    }

    private int bestEnd;
    private int[] bestBegins;

    private void orders(List<Integer> order, int width, int power) {
        if (order.size() == cores.size()) {
            schedule(order, width, power);
            return;
        }
        for (int core = 0; core < cores.size(); core++) {
            if (!order.contains(core)) {
                order.add(core);
                orders(order, width, power);
                order.remove(order.size() - 1);
            }
        }
    }

    /** Time by time: whether a core can go on from a time on, each moment of its run looked at. */
    private void schedule(List<Integer> order, int width, int power) {
        int[] begins = new int[cores.size()];
        int[] usedWidth = new int[6 * 999 + 1];
        int[] usedPower = new int[6 * 999 + 1];
        int last = 0;
        int end = 0;
        for (int core : order) {
            int[] need = cores.get(core);
            int at = last;
            for (int t = at; t < at + need[0]; t++) {
                if (usedWidth[t] + need[1] > width || usedPower[t] + need[2] > power) at = t + 1;
            }
            for (int t = at; t < at + need[0]; t++) {
                usedWidth[t] += need[1];
                usedPower[t] += need[2];
            }
            begins[core] = at;
            last = at;
            end = Math.max(end, at + need[0]);
        }
        if (end < bestEnd) {
            bestEnd = end;
            bestBegins = begins;
        }
    }

    private void planCores(int width, int power) {
        noneIf(cores.isEmpty());
        for (int[] need : cores) noneIf(need[1] > width || need[2] > power);
        bestEnd = Integer.MAX_VALUE;
        orders(new ArrayList<>(), width, power);
    }

    int least(int width, int power) {
        planCores(width, power);
        return bestEnd;
    }

    int begins(int width, int power, int core) {
        if (core < 0 || core >= cores.size()) throw new IndexOutOfBoundsException();
        planCores(width, power);
        return bestBegins[core];
    }

    /** Engines that agree leave nothing else. */
    boolean isSound() {
        return true;
    }
}
