import java.util.Arrays;
import java.util.NoSuchElementException;

public final class StuckatBench {
    private static final int MOST_LINES = 40;
    private static final int MOST_SOURCES = 12;
    private static final int MOST_PATTERNS = 32;
    private static final int MOST_ADDED = 8;
    // 40 stems and 78 pins at the most, twice each, and 16 bridges and slow ones, make 252.
    private static final int MOST_FAULTS = 256;
    private static final int MOST_CHANCES = 200;
    private static final int MOST_TIME = 99;
    private static final int MOST_SEED = 65535;
    private static final int WORD = 64;
    private static final int UNKNOWN = 2;
    private static final int NONE = -1;

    private final Net net;
    private final Faults book;
    private final Patterns rows;
    private final Words words;
    private final Single single;
    private final Lists lists;
    private final Ring ring;
    private final Chip chip;
    private final Memory memory;
    private final Board wires;
    private final Cores cores;

    public StuckatBench() {
        net = new Net();
        book = new Faults(net);
        rows = new Patterns();
        words = new Words(net, book);
        single = new Single(net, book, rows);
        lists = new Lists(net, book, single);
        ring = new Ring();
        chip = new Chip(net, book, rows, words);
        memory = new Memory();
        wires = new Board();
        cores = new Cores();
    }

    // ---- what must hold before a call goes on

    private void needLine(int line) {
        if (line < 0 || line >= net.lines) {
            throw new IndexOutOfBoundsException();
        }
    }

    private void needPattern(int pattern) {
        if (pattern < 0 || pattern >= rows.count) {
            throw new IndexOutOfBoundsException();
        }
    }

    private void needFault(int fault) {
        if (fault < 0 || fault >= book.count) {
            throw new IndexOutOfBoundsException();
        }
    }

    private void needStuck(int fault) {
        needFault(fault);
        if (fault >= book.stuck) {
            throw new IllegalArgumentException();
        }
    }

    private void needNotSlow(int fault) {
        needFault(fault);
        if (book.model[fault] == Faults.SLOW) {
            throw new IllegalArgumentException();
        }
    }

    private void needOpenNet() {
        if (net.isClosed) {
            throw new UnsupportedOperationException();
        }
    }

    private void needClosedNet() {
        if (!net.isClosed) {
            throw new UnsupportedOperationException();
        }
    }

    private void needEngine(char engine) {
        if (engine != 's' && engine != 'p' && engine != 'd') {
            throw new IllegalArgumentException();
        }
    }

    private void needWire(int wire) {
        if (wire < 0 || wire >= wires.many) {
            throw new IndexOutOfBoundsException();
        }
    }

    private void needCode(char code) {
        if (code != 'c' && code != 't') {
            throw new IllegalArgumentException();
        }
    }

    private static void needRange(int number, int least, int most) {
        if (number < least || number > most) {
            throw new IllegalArgumentException();
        }
    }

    // ---- the net

    public int input() throws UnsupportedOperationException, IllegalStateException {
        return addSource(false);
    }

    public int cell() throws UnsupportedOperationException, IllegalStateException {
        return addSource(true);
    }

    private int addSource(boolean isCell) {
        needOpenNet();
        if (net.lines >= MOST_LINES || net.sources >= MOST_SOURCES) {
            throw new IllegalStateException();
        }
        return net.addSource(isCell);
    }

    public int gate(char kind, int first, int second) throws IllegalArgumentException, IndexOutOfBoundsException, UnsupportedOperationException, IllegalStateException {
        int pins = Net.pinsOfKind(kind);
        if (pins == 0) {
            throw new IllegalArgumentException();
        }
        needLine(first);
        if (pins == 2) {
            needLine(second);
        }
        needOpenNet();
        if (net.lines >= MOST_LINES) {
            throw new IllegalStateException();
        }
        return net.addGate(kind, first, pins == 2 ? second : first);
    }

    public int data(int cell, int line) throws IndexOutOfBoundsException, UnsupportedOperationException {
        needLine(cell);
        needLine(line);
        needOpenNet();
        if (net.kind[cell] != 'f') {
            throw new UnsupportedOperationException();
        }
        int before = net.taken[cell];
        net.taken[cell] = line;
        return before;
    }

    public boolean output(int line) throws IndexOutOfBoundsException, UnsupportedOperationException {
        needLine(line);
        needOpenNet();
        boolean wasNone = !net.isOutput[line];
        net.isOutput[line] = true;
        return wasNone;
    }

    public int close() throws UnsupportedOperationException {
        needOpenNet();
        if (!net.canClose()) {
            throw new UnsupportedOperationException();
        }
        net.seal();
        book.numberAll();
        return book.stuck;
    }

    public int testPoint(int line) throws IndexOutOfBoundsException, UnsupportedOperationException {
        needLine(line);
        needClosedNet();
        net.isPoint[line] = true;
        net.listObserved();
        book.group();
        return net.watched;
    }

    // ---- patterns and values

    public int pattern(int known, int ones) throws IllegalArgumentException, UnsupportedOperationException, IllegalStateException {
        if ((known & ~net.allSources()) != 0 || (ones & ~known) != 0) {
            throw new IllegalArgumentException();
        }
        needClosedNet();
        if (rows.count >= MOST_PATTERNS) {
            throw new IllegalStateException();
        }
        return rows.add(known, ones);
    }

    public int value(int pattern, int line) throws IndexOutOfBoundsException {
        needPattern(pattern);
        needLine(line);
        single.runGood(pattern);
        return single.good[line];
    }

    public int faulty(int pattern, int line, int fault) throws IndexOutOfBoundsException {
        needPattern(pattern);
        needLine(line);
        needFault(fault);
        single.runBoth(fault, pattern);
        return single.bad[line];
    }

    // ---- faults and their classes

    public int faults() {
        return book.count;
    }

    public int lineOf(int fault) throws IndexOutOfBoundsException {
        needFault(fault);
        return book.line[fault];
    }

    public int pinOf(int fault) throws IndexOutOfBoundsException {
        needFault(fault);
        return book.pin[fault];
    }

    public int alike(int fault) throws IndexOutOfBoundsException {
        needFault(fault);
        return book.label[fault];
    }

    public int classes() {
        return book.countClasses();
    }

    public int bridge(char kind, int first, int second) throws IllegalArgumentException, IndexOutOfBoundsException, UnsupportedOperationException, IllegalStateException {
        if (kind != 'w' && kind != 'u' && kind != 'd') {
            throw new IllegalArgumentException();
        }
        needLine(first);
        needLine(second);
        needClosedNet();
        // A line depends on itself, so that this refuses two that are the same, too.
        if (net.dependsOn(first, second) || net.dependsOn(second, first)) {
            throw new UnsupportedOperationException();
        }
        if (book.bridges >= MOST_ADDED) {
            throw new IllegalStateException();
        }
        return book.addBridge(kind, first, second);
    }

    public int slow(int line, boolean isRising) throws IndexOutOfBoundsException, UnsupportedOperationException, IllegalStateException {
        needLine(line);
        needClosedNet();
        if (book.slows >= MOST_ADDED) {
            throw new IllegalStateException();
        }
        return book.addSlow(line, isRising ? 0 : 1);
    }

    // ---- what is found

    public boolean finds(int fault, int pattern, char engine) throws IndexOutOfBoundsException, IllegalArgumentException {
        needFault(fault);
        needPattern(pattern);
        needEngine(engine);
        return isFoundBy(engine, fault, pattern);
    }

    private boolean isFoundBy(char engine, int fault, int pattern) {
        if (engine == 'p') {
            return ((words.foundByRows(fault, rows) >> pattern) & 1) != 0;
        }
        if (engine == 's' || fault >= book.stuck) {
            return single.isFound(fault, pattern);
        }
        return isFullyKnown(pattern) && lists.isFound(fault, pattern);
    }

    private boolean isFullyKnown(int pattern) {
        return rows.known[pattern] == net.allSources();
    }

    public long foundBy(int fault) throws IndexOutOfBoundsException {
        needFault(fault);
        return words.foundByRows(fault, rows);
    }

    public float coverage(char engine) throws IllegalArgumentException, ArithmeticException {
        needEngine(engine);
        int many = book.countClasses();
        if (many == 0) {
            throw new ArithmeticException();
        }
        markFound(engine);
        return (float) countFoundClasses() / (float) many;
    }

    /** Leaves in words.found, for each stuck fault, something else than 0 if the engine finds it. */
    private void markFound(char engine) {
        if (engine == 'p') {
            words.findAll(rows);
            return;
        }
        Arrays.fill(words.found, 0L);
        for (int pattern = 0; pattern < rows.count; pattern++) {
            if (engine == 's') {
                single.markFound(pattern, words.found);
            } else if (isFullyKnown(pattern)) {
                lists.markFound(pattern, words.found);
            }
        }
    }

    private int countFoundClasses() {
        int many = 0;
        for (int fault = 0; fault < book.stuck; fault++) {
            if (book.isFirst(fault) && words.found[fault] != 0) {
                many++;
            }
        }
        return many;
    }

    public double meanFound() throws ArithmeticException {
        int many = book.countClasses();
        if (many == 0) {
            throw new ArithmeticException();
        }
        words.findAll(rows);
        int sum = 0;
        for (int fault = 0; fault < book.stuck; fault++) {
            if (book.isFirst(fault)) {
                sum += Long.bitCount(words.found[fault]);
            }
        }
        return (double) sum / (double) many;
    }

    // ---- patterns made, merged and filled

    public int make(int fault) throws IndexOutOfBoundsException, IllegalArgumentException, NoSuchElementException, IllegalStateException {
        needNotSlow(fault);
        int way = words.firstWay(fault);
        if (way < 0) {
            throw new NoSuchElementException();
        }
        if (rows.count >= MOST_PATTERNS) {
            throw new IllegalStateException();
        }
        int decided = words.decisionsNeeded(fault, way);
        int ones = 0;
        for (int source = 0; source < decided; source++) {
            ones |= words.wayBit(way, source) << source;
        }
        return rows.add((1 << decided) - 1, ones);
    }

    public boolean isImpossible(int fault) throws IndexOutOfBoundsException, IllegalArgumentException {
        needNotSlow(fault);
        return words.firstWay(fault) < 0;
    }

    public int tie(int fault) throws IndexOutOfBoundsException, IllegalArgumentException, UnsupportedOperationException {
        needStuck(fault);
        if (book.pin[fault] >= 0) {
            throw new IllegalArgumentException();
        }
        int line = book.line[fault];
        if (net.tied[line] != UNKNOWN || words.firstWay(fault) >= 0) {
            throw new UnsupportedOperationException();
        }
        net.tied[line] = book.value[fault];
        net.ties++;
        book.group();
        return net.ties;
    }

    public int merge(int first, int second) throws IndexOutOfBoundsException, UnsupportedOperationException {
        needPattern(first);
        needPattern(second);
        if (first == second || !rows.canJoin(first, second)) {
            throw new UnsupportedOperationException();
        }
        rows.join(first, second);
        rows.remove(second);
        return rows.count;
    }

    public int mergeAll() {
        rows.joinAll();
        return rows.count;
    }

    public int turnAbout() {
        words.findAll(rows);
        rows.keep(rows.neededFromLast(words, book));
        return rows.count;
    }

    public int fill(int pattern, char how) throws IndexOutOfBoundsException, IllegalArgumentException {
        needPattern(pattern);
        if (how != 'z' && how != 'o' && how != 'a') {
            throw new IllegalArgumentException();
        }
        return rows.fillUp(pattern, how, net.sources);
    }

    public int power(int pattern) throws IndexOutOfBoundsException {
        needPattern(pattern);
        return rows.shiftPower(pattern, net.sources);
    }

    public int patterns() {
        return rows.count;
    }

    public int known(int pattern, boolean areOnes) throws IndexOutOfBoundsException {
        needPattern(pattern);
        return areOnes ? rows.ones[pattern] : rows.known[pattern];
    }

    // ---- rings

    public int setRing(int bits, int taps) throws IllegalArgumentException {
        needRange(bits, Ring.LEAST_BITS, Ring.MOST_BITS);
        needRange(taps, 1, (1 << bits) - 1);
        ring.bits = bits;
        ring.taps = taps;
        return ring.stepsBackToOne();
    }

    public int seedFor(int pattern) throws IndexOutOfBoundsException, NoSuchElementException {
        needPattern(pattern);
        int seed = ring.leastSeed(rows.known[pattern], rows.ones[pattern], net.sources);
        if (seed < 0) {
            throw new NoSuchElementException();
        }
        return seed;
    }

    public int signature(int fault) throws IndexOutOfBoundsException, IllegalArgumentException {
        words.loadRows(rows);
        words.runGood();
        if (fault != NONE) {
            needStuck(fault);
            words.runFault(fault);
        }
        return foldObserved();
    }

    /** The words hold what was run last: that which a fault has not reached is as without it. */
    private int foldObserved() {
        int folded = 0;
        for (int pattern = 0; pattern < rows.count; pattern++) {
            folded = ring.stepped(folded);
            int bit = 0;
            for (int place = 0; place < net.watched; place++) {
                folded ^= (int) ((words.highOf(net.observed[place]) >> pattern) & 1) << bit;
                bit = bit + 1 < ring.bits ? bit + 1 : 0;
            }
        }
        return folded;
    }

    public int aliased() {
        words.loadRows(rows);
        words.runGood();
        int right = foldObserved();
        int many = 0;
        for (int fault = 0; fault < book.stuck; fault++) {
            if (book.isFirst(fault) && words.runFault(fault) != 0 && foldObserved() == right) {
                many++;
            }
        }
        return many;
    }

    public int chance(int seed, int many) throws IllegalArgumentException, UnsupportedOperationException {
        needRange(seed, 0, MOST_SEED);
        needRange(many, 1, MOST_CHANCES);
        needClosedNet();
        Arrays.fill(words.found, 0L);
        int state = seed & ring.allBits();
        for (int done = 0; done < many; done += WORD) {
            state = pressLanes(state, Math.min(WORD, many - done));
            words.runGood();
            for (int fault = 0; fault < book.stuck; fault++) {
                if (book.isFirst(fault)) {
                    words.found[fault] |= words.runFault(fault);
                }
            }
        }
        return countFoundClasses();
    }

    private int pressLanes(int state, int many) {
        int now = state;
        words.clearLanes(many);
        for (int lane = 0; lane < many; lane++) {
            for (int source = 0; source < net.sources; source++) {
                now = ring.stepped(now);
                words.setLane(lane, source, now & 1);
            }
        }
        return now;
    }

    public int weight(int line) throws IndexOutOfBoundsException, UnsupportedOperationException {
        needLine(line);
        needClosedNet();
        return words.countOnes(line);
    }

    public int ways(int fault) throws IndexOutOfBoundsException, IllegalArgumentException {
        needStuck(fault);
        return words.countWays(fault);
    }

    public int hardest() throws NoSuchElementException {
        words.countAllWays();
        int best = NONE;
        for (int fault = 0; fault < book.stuck; fault++) {
            boolean isCounted = book.isFirst(fault) && words.wayCount[fault] > 0;
            if (isCounted && (best < 0 || words.wayCount[fault] < words.wayCount[best])) {
                best = fault;
            }
        }
        if (best < 0) {
            throw new NoSuchElementException();
        }
        return best;
    }

    // ---- chips, candidates, chains

    public int breakChip(int fault) throws IndexOutOfBoundsException, IllegalArgumentException, IllegalStateException {
        needStuck(fault);
        if (chip.broken >= Chip.MOST_BROKEN) {
            throw new IllegalStateException();
        }
        return chip.putIn(fault);
    }

    public int mend() {
        int before = chip.broken;
        chip.broken = 0;
        return before;
    }

    public long fails(int pattern) throws IndexOutOfBoundsException {
        needPattern(pattern);
        return chip.failsOf(pattern);
    }

    public int candidate(int index) throws NoSuchElementException {
        chip.compareAll();
        int fault = chip.candidateAt(index);
        if (fault < 0) {
            throw new NoSuchElementException();
        }
        return fault;
    }

    public int wrong(int fault) throws IndexOutOfBoundsException, IllegalArgumentException {
        needStuck(fault);
        chip.compareAll();
        return chip.wrongs[book.label[fault]];
    }

    public int record() throws NoSuchElementException {
        chip.compareAll();
        int fault = chip.candidateAt(0);
        if (fault < 0) {
            throw new NoSuchElementException();
        }
        book.tallies[fault]++;
        return book.classTally(fault);
    }

    public int tally(int fault) throws IndexOutOfBoundsException, IllegalArgumentException {
        needStuck(fault);
        return book.classTally(book.label[fault]);
    }

    public int breakChain(int place, int value) throws IllegalArgumentException, UnsupportedOperationException {
        needRange(place, NONE, net.cells - 1);
        needRange(value, 0, 1);
        needClosedNet();
        int before = chip.chainPlace;
        chip.chainPlace = place;
        chip.chainValue = value;
        return before;
    }

    public int seen(int pattern, int place) throws IndexOutOfBoundsException {
        needPattern(pattern);
        if (place < 0 || place >= net.cells) {
            throw new IndexOutOfBoundsException();
        }
        return chip.seenAt(pattern, place);
    }

    public int suspects() {
        return chip.suspectedPlaces();
    }

    public int cycles() {
        return (net.cells + 1) * rows.count + net.cells;
    }

    // ---- order

    public int setTime(int pattern, int time) throws IndexOutOfBoundsException, IllegalArgumentException {
        needPattern(pattern);
        needRange(time, 1, MOST_TIME);
        int before = rows.time[pattern];
        rows.time[pattern] = time;
        return before;
    }

    public int orderAt(int index) throws NoSuchElementException {
        if (index < 0 || index >= rows.count) {
            throw new NoSuchElementException();
        }
        words.findAll(rows);
        rows.putInOrder(words, book);
        return rows.order[index];
    }

    public int escapes(int many) throws IllegalArgumentException {
        needRange(many, 0, rows.count);
        words.findAll(rows);
        rows.putInOrder(words, book);
        long ahead = 0;
        for (int index = 0; index < many; index++) {
            ahead |= 1L << rows.order[index];
        }
        int sum = 0;
        for (int fault = 0; fault < book.stuck; fault++) {
            if (book.isFirst(fault) && (words.found[fault] & ahead) == 0) {
                sum += book.classTally(fault);
            }
        }
        return sum;
    }

    // ---- memories

    public int march(char sign) throws IllegalArgumentException, IllegalStateException {
        if (!Memory.isSign(sign)) {
            throw new IllegalArgumentException();
        }
        if (memory.typed >= Memory.MOST_SIGNS) {
            throw new IllegalStateException();
        }
        return memory.type(sign);
    }

    public int eraseMarch() {
        int before = memory.typed;
        memory.typed = 0;
        return before;
    }

    public boolean isRight() {
        return memory.isMarchRight();
    }

    public boolean marchFinds(char kind, int a, int b, int v, int w) throws IllegalArgumentException, UnsupportedOperationException {
        if (!Memory.isFault(kind, a, b, v, w)) {
            throw new IllegalArgumentException();
        }
        if (!memory.isMarchRight()) {
            throw new UnsupportedOperationException();
        }
        return memory.isFaultFound(kind, a, b, v, w);
    }

    public int marchCount(char kind) throws IllegalArgumentException, UnsupportedOperationException {
        if (!Memory.isKind(kind)) {
            throw new IllegalArgumentException();
        }
        if (!memory.isMarchRight()) {
            throw new UnsupportedOperationException();
        }
        return memory.countFound(kind);
    }

    public int bad(int row, int column, boolean isBad) throws IndexOutOfBoundsException {
        if (row < 0 || row >= Memory.SIDE || column < 0 || column >= Memory.SIDE) {
            throw new IndexOutOfBoundsException();
        }
        return memory.mark(row, column, isBad);
    }

    public int repair(int rows, int columns) throws IllegalArgumentException, NoSuchElementException {
        needRange(rows, 0, Memory.SIDE);
        needRange(columns, 0, Memory.SIDE);
        int spared = memory.rowsToSpare(rows, columns);
        if (spared < 0) {
            throw new NoSuchElementException();
        }
        return spared;
    }

    // ---- boards

    public int board(int many, char kind) throws IllegalArgumentException {
        needRange(many, 1, Board.MOST_WIRES);
        if (kind != 'a' && kind != 'o') {
            throw new IllegalArgumentException();
        }
        return wires.layOut(many, kind);
    }

    public boolean openWire(int wire, int value) throws IndexOutOfBoundsException, IllegalArgumentException {
        needWire(wire);
        needRange(value, 0, 1);
        boolean wasWhole = !wires.isOpen(wire);
        wires.stuckAt[wire] = value;
        return wasWhole;
    }

    public int shortWires(int wire, int other) throws IndexOutOfBoundsException, IllegalArgumentException {
        needWire(wire);
        needWire(other);
        if (wire == other) {
            throw new IllegalArgumentException();
        }
        return wires.join(wire, other);
    }

    public int got(int wire, char code) throws IndexOutOfBoundsException, IllegalArgumentException {
        needWire(wire);
        needCode(code);
        return wires.received(wire, code);
    }

    public int badWires(char code) throws IllegalArgumentException {
        needCode(code);
        int sum = 0;
        for (int wire = 0; wire < wires.many; wire++) {
            if (wires.received(wire, code) != wires.sent(wire, code)) {
                sum |= 1 << wire;
            }
        }
        return sum;
    }

    public int sameAs(int wire, char code) throws IndexOutOfBoundsException, IllegalArgumentException {
        needWire(wire);
        needCode(code);
        int wanted = wires.received(wire, code);
        int many = 0;
        for (int other = 0; other < wires.many; other++) {
            if (wires.received(other, code) == wanted) {
                many++;
            }
        }
        return many;
    }

    // ---- cores

    public int core(int time, int width, int power) throws IllegalArgumentException, IllegalStateException {
        needRange(time, 1, Cores.MOST_TIME);
        needRange(width, 1, Cores.MOST_WIDTH);
        needRange(power, 0, Cores.MOST_POWER);
        if (cores.count >= Cores.MOST_CORES) {
            throw new IllegalStateException();
        }
        return cores.add(time, width, power);
    }

    public int least(int width, int power) throws NoSuchElementException {
        needRoomForCores(width, power);
        return cores.plan(width, power);
    }

    public int begins(int width, int power, int core) throws IndexOutOfBoundsException, NoSuchElementException {
        if (core < 0 || core >= cores.count) {
            throw new IndexOutOfBoundsException();
        }
        needRoomForCores(width, power);
        cores.plan(width, power);
        return cores.best[core];
    }

    private void needRoomForCores(int width, int power) {
        if (cores.count == 0 || !cores.canRunEach(width, power)) {
            throw new NoSuchElementException();
        }
    }

    // ---- whether all holds together

    public boolean isSound() {
        words.findAll(rows);
        return doEnginesAgree() && areLikesFoundAlike() && isNoImpossibleFound() && isChipTold();
    }

    private boolean doEnginesAgree() {
        for (int pattern = 0; pattern < rows.count; pattern++) {
            if (isFullyKnown(pattern) && !doEnginesAgreeOn(pattern)) {
                return false;
            }
        }
        return true;
    }

    private boolean doEnginesAgreeOn(int pattern) {
        for (int fault = book.stuck; fault < book.count; fault++) {
            if (single.isFound(fault, pattern) != words.isMarked(fault, pattern)) {
                return false;
            }
        }
        single.runGood(pattern);
        for (int fault = 0; fault < book.stuck; fault++) {
            if ((fault & (WORD - 1)) == 0) {
                lists.runWord(fault);
            }
            boolean isFound = single.isFoundNow(fault);
            if (isFound != words.isMarked(fault, pattern) || isFound != lists.isListed(fault)) {
                return false;
            }
        }
        return true;
    }

    private boolean areLikesFoundAlike() {
        for (int fault = 0; fault < book.stuck; fault++) {
            if (words.found[fault] != words.found[book.label[fault]]) {
                return false;
            }
        }
        return true;
    }

    private boolean isNoImpossibleFound() {
        words.countAllWays();
        for (int fault = 0; fault < book.stuck; fault++) {
            if (book.isFirst(fault) && words.wayCount[fault] == 0 && words.found[fault] != 0) {
                return false;
            }
        }
        return true;
    }

    private boolean isChipTold() {
        if (chip.broken != 1) {
            return true;
        }
        chip.compareAll();
        return !chip.hasFailed() || chip.explained[book.label[chip.putFaults[0]]] > 0;
    }

    // ======== the net: lines, ties, and what is observed

    private static final class Net {
        final char[] kind = new char[MOST_LINES];
        final int[] first = new int[MOST_LINES];
        final int[] second = new int[MOST_LINES];
        final int[] taken = new int[MOST_LINES];
        final int[] goes = new int[MOST_LINES];
        final int[] tied = new int[MOST_LINES];
        final int[] sourceOf = new int[MOST_LINES];
        final long[] reach = new long[MOST_LINES];
        final int[] cellLine = new int[MOST_SOURCES];
        final int[] observed = new int[MOST_LINES];
        final boolean[] isOutput = new boolean[MOST_LINES];
        final boolean[] isPoint = new boolean[MOST_LINES];
        int lines;
        int sources;
        int cells;
        int ties;
        int watched;
        boolean isClosed;

        Net() {
            Arrays.fill(taken, NONE);
            Arrays.fill(sourceOf, NONE);
            Arrays.fill(tied, UNKNOWN);
        }

        static int pinsOfKind(char kind) {
            switch (kind) {
                case 'a':
                case 'o':
                case 'n':
                case 'r':
                case 'x':
                    return 2;
                case 'b':
                case 'v':
                    return 1;
                default:
                    return 0;
            }
        }

        static int not(int value) {
            return value == UNKNOWN ? UNKNOWN : 1 - value;
        }

        /** What a gate gives; the second one is of no meaning for b and v. */
        static int given(char kind, int one, int other) {
            switch (kind) {
                case 'a':
                    return both(one, other);
                case 'n':
                    return not(both(one, other));
                case 'o':
                    return either(one, other);
                case 'r':
                    return not(either(one, other));
                case 'x':
                    return one == UNKNOWN || other == UNKNOWN ? UNKNOWN : one ^ other;
                case 'b':
                    return one;
                default:
                    return not(one);
            }
        }

        static int both(int one, int other) {
            if (one == 0 || other == 0) {
                return 0;
            }
            return one == 1 && other == 1 ? 1 : UNKNOWN;
        }

        static int either(int one, int other) {
            if (one == 1 || other == 1) {
                return 1;
            }
            return one == 0 && other == 0 ? 0 : UNKNOWN;
        }

        int addSource(boolean isCell) {
            int line = lines;
            kind[line] = isCell ? 'f' : 'i';
            reach[line] = 1L << line;
            sourceOf[line] = sources;
            sources++;
            if (isCell) {
                cellLine[cells] = line;
                cells++;
            }
            lines++;
            return line;
        }

        int addGate(char sort, int one, int other) {
            int line = lines;
            kind[line] = sort;
            first[line] = one;
            second[line] = other;
            reach[line] = reach[one] | reach[other] | 1L << line;
            lines++;
            return line;
        }

        boolean dependsOn(int line, int other) {
            return ((reach[line] >> other) & 1) != 0;
        }

        int allSources() {
            return (1 << sources) - 1;
        }

        int pins(int line) {
            return pinsOfKind(kind[line]);
        }

        int pinLine(int line, int pin) {
            return pin == 0 ? first[line] : second[line];
        }

        boolean canClose() {
            // What a cell takes is observed, so that one cell is enough to observe something.
            boolean isWatched = cells > 0;
            for (int line = 0; line < lines; line++) {
                if (kind[line] == 'f' && taken[line] < 0) {
                    return false;
                }
                isWatched |= isOutput[line];
            }
            return isWatched;
        }

        void seal() {
            isClosed = true;
            for (int line = 0; line < lines; line++) {
                for (int pin = 0; pin < pins(line); pin++) {
                    goes[pinLine(line, pin)]++;
                }
                if (taken[line] >= 0) {
                    goes[taken[line]]++;
                }
                if (isOutput[line]) {
                    goes[line]++;
                }
            }
            listObserved();
        }

        void listObserved() {
            watched = 0;
            for (int line = 0; line < lines; line++) {
                if (isOutput[line] || isPoint[line] || isTaken(line)) {
                    observed[watched] = line;
                    watched++;
                }
            }
        }

        private boolean isTaken(int line) {
            for (int place = 0; place < cells; place++) {
                if (taken[cellLine[place]] == line) {
                    return true;
                }
            }
            return false;
        }
    }

    // ======== faults, their classes and tallies

    private static final class Faults {
        static final char STUCK = 's';
        static final char SLOW = 'l';

        final Net net;
        final char[] model = new char[MOST_FAULTS];
        final int[] line = new int[MOST_FAULTS];
        final int[] pin = new int[MOST_FAULTS];
        final int[] value = new int[MOST_FAULTS];
        final int[] other = new int[MOST_FAULTS];
        final int[] label = new int[MOST_FAULTS];
        final int[] tallies = new int[MOST_FAULTS];
        final int[] atStem = new int[MOST_LINES];
        final int[] atPin = new int[2 * MOST_LINES];
        int count;
        int stuck;
        int bridges;
        int slows;

        Faults(Net net) {
            this.net = net;
            Arrays.fill(atPin, NONE);
        }

        void numberAll() {
            for (int at = 0; at < net.lines; at++) {
                atStem[at] = addPlace(at, NONE);
                for (int which = 0; which < net.pins(at); which++) {
                    if (net.goes[net.pinLine(at, which)] >= 2) {
                        atPin[2 * at + which] = addPlace(at, which);
                    }
                }
            }
            stuck = count;
            group();
        }

        private int addPlace(int at, int which) {
            add(STUCK, at, which, 0);
            return add(STUCK, at, which, 1) - 1;
        }

        private int add(char sort, int at, int which, int held) {
            int fault = count;
            model[fault] = sort;
            line[fault] = at;
            pin[fault] = which;
            value[fault] = held;
            other[fault] = NONE;
            label[fault] = fault;
            count++;
            return fault;
        }

        int addBridge(char sort, int one, int second) {
            int fault = add(sort, one, NONE, UNKNOWN);
            other[fault] = second;
            bridges++;
            return fault;
        }

        /** A slow one holds its line at what it was: 0 if it is slow to rise. */
        int addSlow(int at, int held) {
            slows++;
            return add(SLOW, at, NONE, held);
        }

        boolean isBridge(int fault) {
            return other[fault] >= 0;
        }

        boolean isFirst(int fault) {
            return label[fault] == fault;
        }

        int countClasses() {
            int many = 0;
            for (int fault = 0; fault < stuck; fault++) {
                if (isFirst(fault)) {
                    many++;
                }
            }
            return many;
        }

        void group() {
            for (int fault = 0; fault < stuck; fault++) {
                label[fault] = fault;
            }
            for (int at = 0; at < net.lines; at++) {
                if (net.tied[at] == UNKNOWN) {
                    groupThrough(at);
                }
            }
        }

        /** Alike is what the gate gives by this input alone, whatever the other one is. */
        private void groupThrough(int at) {
            for (int which = 0; which < net.pins(at); which++) {
                int place = placeOfInput(at, which);
                for (int held = 0; place >= 0 && held < 2; held++) {
                    int result = Net.given(net.kind[at], held, UNKNOWN);
                    if (result != UNKNOWN) {
                        unite(label[place + held], label[atStem[at] + result]);
                    }
                }
            }
        }

        private int placeOfInput(int at, int which) {
            int place = atPin[2 * at + which];
            int from = net.pinLine(at, which);
            if (place >= 0) {
                return place;
            }
            return net.isPoint[from] ? NONE : atStem[from];
        }

        private void unite(int one, int second) {
            int low = Math.min(one, second);
            int high = Math.max(one, second);
            for (int fault = 0; fault < stuck; fault++) {
                if (label[fault] == high) {
                    label[fault] = low;
                }
            }
        }

        int classTally(int head) {
            int sum = 0;
            for (int fault = 0; fault < stuck; fault++) {
                if (label[fault] == head) {
                    sum += tallies[fault];
                }
            }
            return sum;
        }
    }

    // ======== patterns: what they know, how long they take, and their order

    private static final class Patterns {
        final int[] known = new int[MOST_PATTERNS];
        final int[] ones = new int[MOST_PATTERNS];
        final int[] time = new int[MOST_PATTERNS];
        final int[] order = new int[MOST_PATTERNS];
        final int[] worth = new int[MOST_FAULTS];
        int count;

        int add(int sources, int high) {
            known[count] = sources;
            ones[count] = high;
            time[count] = 1;
            count++;
            return count - 1;
        }

        boolean canJoin(int one, int other) {
            return (known[one] & known[other] & (ones[one] ^ ones[other])) == 0;
        }

        void join(int one, int other) {
            known[one] |= known[other];
            ones[one] |= ones[other];
        }

        private void copy(int from, int to) {
            known[to] = known[from];
            ones[to] = ones[from];
            time[to] = time[from];
        }

        void remove(int pattern) {
            for (int next = pattern + 1; next < count; next++) {
                copy(next, next - 1);
            }
            count--;
        }

        void joinAll() {
            int left = 0;
            for (int pattern = 0; pattern < count; pattern++) {
                int host = firstHost(pattern, left);
                if (host >= 0) {
                    join(host, pattern);
                } else {
                    copy(pattern, left);
                    left++;
                }
            }
            count = left;
        }

        private int firstHost(int pattern, int left) {
            for (int host = 0; host < left; host++) {
                if (canJoin(host, pattern)) {
                    return host;
                }
            }
            return NONE;
        }

        void keep(long kept) {
            int left = 0;
            for (int pattern = 0; pattern < count; pattern++) {
                if (((kept >> pattern) & 1) != 0) {
                    copy(pattern, left);
                    left++;
                }
            }
            count = left;
        }

        long neededFromLast(Words words, Faults book) {
            long kept = 0;
            for (int pattern = count - 1; pattern >= 0; pattern--) {
                if (gain(pattern, kept, words, book, false) > 0) {
                    kept |= 1L << pattern;
                }
            }
            return kept;
        }

        /** What it adds to others: the number of classes, or what these are worth. */
        private int gain(int pattern, long others, Words words, Faults book, boolean isByWorth) {
            int sum = 0;
            for (int fault = 0; fault < book.stuck; fault++) {
                long found = words.found[fault];
                if (book.isFirst(fault) && ((found >> pattern) & 1) != 0 && (found & others) == 0) {
                    sum += isByWorth ? worth[fault] : 1;
                }
            }
            return sum;
        }

        void putInOrder(Words words, Faults book) {
            for (int fault = 0; fault < book.stuck; fault++) {
                worth[fault] = book.isFirst(fault) ? book.classTally(fault) + 1 : 0;
            }
            long ahead = 0;
            for (int index = 0; index < count; index++) {
                order[index] = bestBehind(ahead, words, book);
                ahead |= 1L << order[index];
            }
        }

        private int bestBehind(long ahead, Words words, Faults book) {
            int best = 0;
            int bestGain = NONE;
            for (int pattern = 0; pattern < count; pattern++) {
                if (((ahead >> pattern) & 1) == 0) {
                    int own = gain(pattern, ahead, words, book, true);
                    // Multiplied crosswise, so that nothing is rounded.
                    if (bestGain < 0 || own * time[best] > bestGain * time[pattern]) {
                        best = pattern;
                        bestGain = own;
                    }
                }
            }
            return best;
        }

        int fillUp(int pattern, char how, int sources) {
            int filled = 0;
            int last = 0;
            for (int source = 0; source < sources; source++) {
                int bit = 1 << source;
                if ((known[pattern] & bit) != 0) {
                    last = (ones[pattern] >> source) & 1;
                } else {
                    filled++;
                    known[pattern] |= bit;
                    if (how == 'o' || how == 'a' && last == 1) {
                        ones[pattern] |= bit;
                    }
                }
            }
            return filled;
        }

        int shiftPower(int pattern, int sources) {
            int sum = 0;
            for (int source = 1; source < sources; source++) {
                boolean areKnown = ((known[pattern] >> (source - 1)) & 3) == 3;
                int pair = (ones[pattern] >> (source - 1)) & 3;
                if (areKnown && (pair == 1 || pair == 2)) {
                    sum += source;
                }
            }
            return sum;
        }
    }

    // ======== engine p: many patterns at once, a bit of a word for each

    private static final class Words {
        // The six sources that change most quickly, as all values are counted up in a word.
        private static final long[] COUNTING = {
            0xAAAAAAAAAAAAAAAAL, 0xCCCCCCCCCCCCCCCCL, 0xF0F0F0F0F0F0F0F0L,
            0xFF00FF00FF00FF00L, 0xFFFF0000FFFF0000L, 0xFFFFFFFF00000000L
        };
        private static final int COUNTED = 6;
        private static final long ALL = -1L;

        final Net net;
        final Faults book;
        // A value is two bits: whether it is 0, and whether it is 1; neither, if it is not known.
        final long[] sourceZero = new long[MOST_SOURCES];
        final long[] sourceOne = new long[MOST_SOURCES];
        final long[] zero = new long[MOST_LINES];
        final long[] one = new long[MOST_LINES];
        final long[] badZero = new long[MOST_LINES];
        final long[] badOne = new long[MOST_LINES];
        final int[] stemHeld = new int[MOST_LINES];
        final int[] pinHeld = new int[2 * MOST_LINES];
        final long[] found = new long[MOST_FAULTS];
        final int[] wayCount = new int[MOST_FAULTS];
        long lanes;
        long heldLanes;
        long touched;
        int start;
        int bridge;

        Words(Net net, Faults book) {
            this.net = net;
            this.book = book;
            this.bridge = NONE;
            Arrays.fill(stemHeld, UNKNOWN);
            Arrays.fill(pinHeld, UNKNOWN);
        }

        // ---- what the sources are given

        void clearLanes(int many) {
            lanes = many >= WORD ? ALL : (1L << many) - 1;
            Arrays.fill(sourceZero, 0L);
            Arrays.fill(sourceOne, 0L);
        }

        void setLane(int lane, int source, int value) {
            if (value == 0) {
                sourceZero[source] |= 1L << lane;
            } else {
                sourceOne[source] |= 1L << lane;
            }
        }

        void loadRows(Patterns rows) {
            clearLanes(rows.count);
            for (int pattern = 0; pattern < rows.count; pattern++) {
                for (int source = 0; source < net.sources; source++) {
                    if (((rows.known[pattern] >> source) & 1) != 0) {
                        setLane(pattern, source, (rows.ones[pattern] >> source) & 1);
                    }
                }
            }
        }

        void holdSource(int source, int value) {
            sourceZero[source] = value == 0 ? ALL : 0L;
            sourceOne[source] = value == 0 ? 0L : ALL;
        }

        int wordsOfWays() {
            return net.sources > COUNTED ? 1 << (net.sources - COUNTED) : 1;
        }

        // The source 0 counts highest in a way, so that ways rise as decisions are gone through.
        int wayBit(int way, int source) {
            return (way >> (net.sources - 1 - source)) & 1;
        }

        private void loadWays(int word) {
            lanes = net.sources >= COUNTED ? ALL : (1L << (1 << net.sources)) - 1;
            for (int source = 0; source < net.sources; source++) {
                int place = net.sources - 1 - source;
                if (place < COUNTED) {
                    sourceOne[source] = COUNTING[place];
                    sourceZero[source] = ~COUNTING[place];
                } else {
                    holdSource(source, (word >> (place - COUNTED)) & 1);
                }
            }
        }

        /** The lane k knows the first k sources, as the way has them. */
        private void loadDecisions(int way) {
            clearLanes(net.sources + 1);
            for (int lane = 1; lane <= net.sources; lane++) {
                for (int source = 0; source < lane; source++) {
                    setLane(lane, source, wayBit(way, source));
                }
            }
        }

        // ---- runs

        void runGood() {
            touched = 0;
            for (int line = 0; line < net.lines; line++) {
                int source = net.sourceOf[line];
                if (net.tied[line] != UNKNOWN) {
                    zero[line] = net.tied[line] == 0 ? ALL : 0L;
                    one[line] = net.tied[line] == 0 ? 0L : ALL;
                } else if (source >= 0) {
                    zero[line] = sourceZero[source];
                    one[line] = sourceOne[source];
                } else {
                    int a = net.first[line];
                    int b = net.second[line];
                    zero[line] = lowRail(net.kind[line], zero[a], one[a], zero[b], one[b]);
                    one[line] = highRail(net.kind[line], zero[a], one[a], zero[b], one[b]);
                }
            }
        }

        private static long highRail(char kind, long a0, long a1, long b0, long b1) {
            switch (kind) {
                case 'a':
                    return a1 & b1;
                case 'o':
                    return a1 | b1;
                case 'n':
                    return a0 | b0;
                case 'r':
                    return a0 & b0;
                case 'x':
                    return a1 & b0 | a0 & b1;
                case 'b':
                    return a1;
                default:
                    return a0;
            }
        }

        private static long lowRail(char kind, long a0, long a1, long b0, long b1) {
            switch (kind) {
                case 'a':
                    return a0 | b0;
                case 'o':
                    return a0 & b0;
                case 'n':
                    return a1 & b1;
                case 'r':
                    return a1 | b1;
                case 'x':
                    return a0 & b0 | a1 & b1;
                case 'b':
                    return a0;
                default:
                    return a1;
            }
        }

        /** Runs with a fault behind a run without it; returns the lanes that find it. */
        long runFault(int fault) {
            start = net.lines;
            hold(fault);
            spread();
            release(fault);
            return foundLanes();
        }

        /** Holding them one by one, a later one takes the place of one at the same place. */
        void runSeveral(int[] several, int many) {
            start = net.lines;
            for (int index = 0; index < many; index++) {
                hold(several[index]);
            }
            spread();
            for (int index = 0; index < many; index++) {
                release(several[index]);
            }
        }

        private void hold(int fault) {
            int line = book.line[fault];
            heldLanes = ALL;
            start = Math.min(start, line);
            if (book.isBridge(fault)) {
                bridge = fault;
                start = Math.min(start, book.other[fault]);
            } else if (book.pin[fault] >= 0) {
                pinHeld[2 * line + book.pin[fault]] = book.value[fault];
            } else {
                stemHeld[line] = book.value[fault];
                if (book.model[fault] == Faults.SLOW) {
                    // A lane is the pattern ahead of the next one: none is ahead of the lane 0.
                    heldLanes = (book.value[fault] == 0 ? zero[line] : one[line]) << 1;
                }
            }
        }

        private void release(int fault) {
            int line = book.line[fault];
            bridge = NONE;
            stemHeld[line] = UNKNOWN;
            if (book.pin[fault] >= 0) {
                pinHeld[2 * line + book.pin[fault]] = UNKNOWN;
            }
        }

        private void spread() {
            touched = 0;
            for (int line = start; line < net.lines; line++) {
                if (bridge >= 0 && (book.line[bridge] == line || book.other[bridge] == line)) {
                    runBridged(line);
                } else if (stemHeld[line] != UNKNOWN) {
                    long free = ~heldLanes;
                    put(line, (stemHeld[line] == 0 ? heldLanes : 0L) | zero[line] & free,
                        (stemHeld[line] == 1 ? heldLanes : 0L) | one[line] & free);
                } else if (isReached(line)) {
                    runGate(line);
                }
            }
        }

        /** Neither line depends on the other one, so that both are had from the run without it. */
        private void runBridged(int line) {
            int a = book.line[bridge];
            int b = book.other[bridge];
            char sort = book.model[bridge];
            if (sort == 'w') {
                put(line, zero[a] | zero[b], one[a] & one[b]);
            } else if (sort == 'u') {
                put(line, zero[a] & zero[b], one[a] | one[b]);
            } else {
                put(line, zero[a], one[a]);
            }
        }

        private boolean isReached(int line) {
            if (net.sourceOf[line] >= 0 || net.tied[line] != UNKNOWN) {
                return false;
            }
            long pins = 1L << net.first[line] | 1L << net.second[line];
            return (pins & touched) != 0 || pinHeld[2 * line] != UNKNOWN || pinHeld[2 * line + 1] != UNKNOWN;
        }

        private void runGate(int line) {
            char kind = net.kind[line];
            int a = net.first[line];
            int b = net.second[line];
            long a0 = pinRail(pinHeld[2 * line], 0, lowOf(a));
            long a1 = pinRail(pinHeld[2 * line], 1, highOf(a));
            long b0 = pinRail(pinHeld[2 * line + 1], 0, lowOf(b));
            long b1 = pinRail(pinHeld[2 * line + 1], 1, highOf(b));
            put(line, lowRail(kind, a0, a1, b0, b1), highRail(kind, a0, a1, b0, b1));
        }

        private static long pinRail(int held, int rail, long free) {
            if (held == UNKNOWN) {
                return free;
            }
            return held == rail ? ALL : 0L;
        }

        private void put(int line, long low, long high) {
            badZero[line] = low;
            badOne[line] = high;
            if (low != zero[line] || high != one[line]) {
                touched |= 1L << line;
            }
        }

        // What a run with a fault has not touched is as in the run without it.
        private long lowOf(int line) {
            return ((touched >> line) & 1) != 0 ? badZero[line] : zero[line];
        }

        long highOf(int line) {
            return ((touched >> line) & 1) != 0 ? badOne[line] : one[line];
        }

        /** The lanes in which a line is 0 or 1, and the other one with what was held. */
        long unlike(int line) {
            return (zero[line] & highOf(line) | one[line] & lowOf(line)) & lanes;
        }

        private long foundLanes() {
            long sum = 0;
            for (int place = 0; place < net.watched; place++) {
                sum |= unlike(net.observed[place]);
            }
            return sum;
        }

        // ---- by the patterns

        long foundByRows(int fault, Patterns rows) {
            loadRows(rows);
            runGood();
            return runFault(fault);
        }

        void findAll(Patterns rows) {
            loadRows(rows);
            runGood();
            for (int fault = 0; fault < book.count; fault++) {
                found[fault] = runFault(fault);
            }
        }

        boolean isMarked(int fault, int pattern) {
            return ((found[fault] >> pattern) & 1) != 0;
        }

        // ---- by all values of the sources

        int firstWay(int fault) {
            for (int word = 0; word < wordsOfWays(); word++) {
                loadWays(word);
                runGood();
                long finding = runFault(fault);
                if (finding != 0) {
                    return word * WORD + Long.numberOfTrailingZeros(finding);
                }
            }
            return NONE;
        }

        // What is found with some sources known is found whatever the others are; so the first
        // decisions that find a fault are the shortest ones that begin the first way.
        int decisionsNeeded(int fault, int way) {
            loadDecisions(way);
            runGood();
            long finding = runFault(fault);
            return finding == 0 ? net.sources : Long.numberOfTrailingZeros(finding);
        }

        int countOnes(int line) {
            int sum = 0;
            for (int word = 0; word < wordsOfWays(); word++) {
                loadWays(word);
                runGood();
                sum += Long.bitCount(one[line] & lanes);
            }
            return sum;
        }

        int countWays(int fault) {
            int sum = 0;
            for (int word = 0; word < wordsOfWays(); word++) {
                loadWays(word);
                runGood();
                sum += Long.bitCount(runFault(fault));
            }
            return sum;
        }

        void countAllWays() {
            Arrays.fill(wayCount, 0);
            for (int word = 0; word < wordsOfWays(); word++) {
                loadWays(word);
                runGood();
                for (int fault = 0; fault < book.stuck; fault++) {
                    if (book.isFirst(fault)) {
                        wayCount[fault] += Long.bitCount(runFault(fault));
                    }
                }
            }
        }
    }

    // ======== engine s: one pattern, and each fault by itself

    private static final class Single {
        final Net net;
        final Faults book;
        final Patterns rows;
        final int[] good = new int[MOST_LINES];
        final int[] bad = new int[MOST_LINES];

        Single(Net net, Faults book, Patterns rows) {
            this.net = net;
            this.book = book;
            this.rows = rows;
        }

        void runGood(int pattern) {
            for (int line = 0; line < net.lines; line++) {
                int source = net.sourceOf[line];
                if (net.tied[line] != UNKNOWN) {
                    good[line] = net.tied[line];
                } else if (source >= 0) {
                    boolean isKnown = ((rows.known[pattern] >> source) & 1) != 0;
                    good[line] = isKnown ? (rows.ones[pattern] >> source) & 1 : UNKNOWN;
                } else {
                    good[line] = Net.given(net.kind[line], good[net.first[line]], good[net.second[line]]);
                }
            }
        }

        void runBoth(int fault, int pattern) {
            boolean isActive = book.model[fault] != Faults.SLOW;
            if (!isActive && pattern > 0) {
                runGood(pattern - 1);
                isActive = good[book.line[fault]] == book.value[fault];
            }
            runGood(pattern);
            runBad(isActive ? fault : NONE);
        }

        private void runBad(int fault) {
            for (int line = 0; line < net.lines; line++) {
                boolean isAt = fault >= 0 && book.line[fault] == line;
                boolean isBridged = fault >= 0 && book.isBridge(fault) && (isAt || book.other[fault] == line);
                if (isBridged) {
                    bad[line] = bridged(fault);
                } else if (isAt && book.pin[fault] < 0) {
                    bad[line] = book.value[fault];
                } else if (net.tied[line] != UNKNOWN || net.sourceOf[line] >= 0) {
                    bad[line] = good[line];
                } else {
                    int held = isAt ? book.pin[fault] : NONE;
                    int a = held == 0 ? book.value[fault] : bad[net.first[line]];
                    int b = held == 1 ? book.value[fault] : bad[net.second[line]];
                    bad[line] = Net.given(net.kind[line], a, b);
                }
            }
        }

        /** Both lines get the same, for 'd' too: there the first one keeps its own. */
        private int bridged(int fault) {
            int a = good[book.line[fault]];
            int b = good[book.other[fault]];
            switch (book.model[fault]) {
                case 'w':
                    return Net.both(a, b);
                case 'u':
                    return Net.either(a, b);
                default:
                    return a;
            }
        }

        private boolean isUnlike() {
            for (int place = 0; place < net.watched; place++) {
                int line = net.observed[place];
                if (good[line] != UNKNOWN && bad[line] == 1 - good[line]) {
                    return true;
                }
            }
            return false;
        }

        boolean isFound(int fault, int pattern) {
            runBoth(fault, pattern);
            return isUnlike();
        }

        /** For a stuck fault, behind a run without it. */
        boolean isFoundNow(int fault) {
            runBad(fault);
            return isUnlike();
        }

        void markFound(int pattern, long[] marks) {
            runGood(pattern);
            for (int fault = 0; fault < book.stuck; fault++) {
                if (marks[fault] == 0 && book.isFirst(fault) && isFoundNow(fault)) {
                    marks[fault] = 1;
                }
            }
        }
    }

    // ======== engine d: lists of stuck faults go through the gates, for one pattern all known

    private static final class Lists {
        final Net net;
        final Faults book;
        final Single single;
        // The faults by which a line turns over, 64 of them at a time, as bits.
        final long[] turning = new long[MOST_LINES];
        int base;
        long reached;

        Lists(Net net, Faults book, Single single) {
            this.net = net;
            this.book = book;
            this.single = single;
        }

        boolean isFound(int fault, int pattern) {
            single.runGood(pattern);
            runWord(fault);
            return isListed(fault);
        }

        void markFound(int pattern, long[] marks) {
            single.runGood(pattern);
            for (int from = 0; from < book.stuck; from += WORD) {
                runWord(from);
                for (int fault = from; fault < from + WORD && fault < book.stuck; fault++) {
                    if (isListed(fault)) {
                        marks[fault] = 1;
                    }
                }
            }
        }

        boolean isListed(int fault) {
            return (reached & bitOf(fault)) != 0;
        }

        /** Makes the lists of the 64 faults among which one is, by the values without faults. */
        void runWord(int fault) {
            base = fault - (fault & (WORD - 1));
            for (int line = 0; line < net.lines; line++) {
                boolean isFixed = net.tied[line] != UNKNOWN || net.sourceOf[line] >= 0;
                long through = isFixed ? 0L : throughGate(line);
                turning[line] = through | bitOf(book.atStem[line] + 1 - single.good[line]);
            }
            reached = 0;
            for (int place = 0; place < net.watched; place++) {
                reached |= turning[net.observed[place]];
            }
        }

        private long bitOf(int fault) {
            int place = fault - base;
            return place >= 0 && place < WORD ? 1L << place : 0L;
        }

        private long throughGate(int line) {
            char kind = net.kind[line];
            long a = atPin(line, 0);
            if (net.pins(line) == 1) {
                return a;
            }
            long b = atPin(line, 1);
            if (kind == 'x') {
                return a ^ b;
            }
            // The value that decides by itself what the gate gives.
            int deciding = kind == 'a' || kind == 'n' ? 0 : 1;
            boolean isFirst = single.good[net.first[line]] == deciding;
            boolean isSecond = single.good[net.second[line]] == deciding;
            if (isFirst && isSecond) {
                return a & b;
            }
            if (isFirst) {
                return a & ~b;
            }
            return isSecond ? b & ~a : a | b;
        }

        private long atPin(int line, int pin) {
            int from = net.pinLine(line, pin);
            int place = book.atPin[2 * line + pin];
            return place < 0 ? turning[from] : turning[from] | bitOf(place + 1 - single.good[from]);
        }
    }

    // ======== rings

    private static final class Ring {
        static final int LEAST_BITS = 2;
        static final int MOST_BITS = 16;
        // Behind the bits of a seed stands, in an equation, what their exclusive or must be.
        private static final int RESULT = 1 << MOST_BITS;

        final int[] form = new int[MOST_BITS];
        final int[] solved = new int[MOST_BITS];
        int bits = 4;
        int taps = 12;

        int allBits() {
            return (1 << bits) - 1;
        }

        int stepped(int state) {
            return (state << 1 | Integer.bitCount(state & taps) & 1) & allBits();
        }

        int stepsBackToOne() {
            int state = 1;
            for (int steps = 1; steps <= allBits(); steps++) {
                state = stepped(state);
                if (state == 1) {
                    return steps;
                }
            }
            return 0;
        }

        /** Each source is an exclusive or of bits of the seed, so that equations tell the seed. */
        int leastSeed(int known, int ones, int sources) {
            for (int bit = 0; bit < bits; bit++) {
                form[bit] = 1 << bit;
                solved[bit] = 0;
            }
            for (int source = 0; source < sources; source++) {
                stepForms();
                if (((known >> source) & 1) != 0) {
                    int wanted = ((ones >> source) & 1) == 0 ? 0 : RESULT;
                    if (!require(form[0] | wanted)) {
                        return NONE;
                    }
                }
            }
            return seedOfSolved();
        }

        private void stepForms() {
            int in = 0;
            for (int bit = 0; bit < bits; bit++) {
                if (((taps >> bit) & 1) != 0) {
                    in ^= form[bit];
                }
            }
            for (int bit = bits - 1; bit > 0; bit--) {
                form[bit] = form[bit - 1];
            }
            form[0] = in;
        }

        // Each equation is solved for its lowest bit: those left free, and 0, are the highest
        // that can be, which makes the seed the least one.
        private boolean require(int equation) {
            int row = equation;
            for (int bit = 0; bit < bits; bit++) {
                if (((row >> bit) & 1) != 0) {
                    row ^= solved[bit];
                }
            }
            if ((row & allBits()) == 0) {
                return row == 0;
            }
            int lowest = Integer.numberOfTrailingZeros(row);
            for (int bit = 0; bit < lowest; bit++) {
                if (((solved[bit] >> lowest) & 1) != 0) {
                    solved[bit] ^= row;
                }
            }
            solved[lowest] = row;
            return true;
        }

        private int seedOfSolved() {
            int seed = 0;
            for (int bit = 0; bit < bits; bit++) {
                if ((solved[bit] & RESULT) != 0) {
                    seed |= 1 << bit;
                }
            }
            return seed;
        }
    }

    // ======== the chip on the bench, its candidates, and the chain of cells

    private static final class Chip {
        static final int MOST_BROKEN = 2;

        final Net net;
        final Faults book;
        final Patterns rows;
        final Words words;
        final int[] putFaults = new int[MOST_BROKEN];
        final long[] failing = new long[MOST_LINES];
        final int[] explained = new int[MOST_FAULTS];
        final int[] wrongs = new int[MOST_FAULTS];
        final long[] seenZero = new long[MOST_SOURCES];
        final long[] seenOne = new long[MOST_SOURCES];
        int broken;
        int chainPlace = NONE;
        int chainValue;

        Chip(Net net, Faults book, Patterns rows, Words words) {
            this.net = net;
            this.book = book;
            this.rows = rows;
            this.words = words;
        }

        int putIn(int fault) {
            putFaults[broken] = fault;
            broken++;
            return broken;
        }

        private void runChip() {
            words.loadRows(rows);
            words.runGood();
            words.runSeveral(putFaults, broken);
            for (int place = 0; place < net.watched; place++) {
                failing[place] = words.unlike(net.observed[place]);
            }
        }

        long failsOf(int pattern) {
            runChip();
            long sum = 0;
            for (int place = 0; place < net.watched; place++) {
                sum |= ((failing[place] >> pattern) & 1) << place;
            }
            return sum;
        }

        boolean hasFailed() {
            long any = 0;
            for (int place = 0; place < net.watched; place++) {
                any |= failing[place];
            }
            return any != 0;
        }

        void compareAll() {
            runChip();
            for (int fault = 0; fault < book.stuck; fault++) {
                explained[fault] = 0;
                wrongs[fault] = 0;
                if (book.isFirst(fault)) {
                    compare(fault);
                }
            }
        }

        private void compare(int fault) {
            words.runFault(fault);
            for (int place = 0; place < net.watched; place++) {
                long own = words.unlike(net.observed[place]);
                explained[fault] += Long.bitCount(own & failing[place]);
                wrongs[fault] += Long.bitCount(own ^ failing[place]);
            }
        }

        int candidateAt(int index) {
            for (int fault = 0; fault < book.stuck; fault++) {
                if (explained[fault] > 0 && countAhead(fault) == index) {
                    return fault;
                }
            }
            return NONE;
        }

        private int countAhead(int fault) {
            int many = 0;
            for (int other = 0; other < book.stuck; other++) {
                boolean isBetter = wrongs[other] < wrongs[fault] || wrongs[other] == wrongs[fault] && other < fault;
                if (explained[other] > 0 && isBetter) {
                    many++;
                }
            }
            return many;
        }

        // ---- the chain

        private void runChain(int place, int value) {
            words.loadRows(rows);
            for (int behind = place; place >= 0 && behind < net.cells; behind++) {
                words.holdSource(net.sourceOf[net.cellLine[behind]], value);
            }
            words.runGood();
        }

        private long seenRail(int at, int place, int value, int which) {
            if (at <= place) {
                return value == which ? words.lanes : 0L;
            }
            int line = net.taken[net.cellLine[at]];
            return (which == 0 ? words.zero[line] : words.one[line]) & words.lanes;
        }

        int seenAt(int pattern, int at) {
            runChain(chainPlace, chainValue);
            if (((seenRail(at, chainPlace, chainValue, 0) >> pattern) & 1) != 0) {
                return 0;
            }
            return ((seenRail(at, chainPlace, chainValue, 1) >> pattern) & 1) != 0 ? 1 : UNKNOWN;
        }

        int suspectedPlaces() {
            if (chainPlace < 0) {
                return 0;
            }
            runChain(chainPlace, chainValue);
            for (int at = 0; at < net.cells; at++) {
                seenZero[at] = seenRail(at, chainPlace, chainValue, 0);
                seenOne[at] = seenRail(at, chainPlace, chainValue, 1);
            }
            int sum = 0;
            for (int place = 0; place < net.cells; place++) {
                if (isSeenAlike(place)) {
                    sum |= 1 << place;
                }
            }
            return sum;
        }

        private boolean isSeenAlike(int place) {
            runChain(place, chainValue);
            for (int at = 0; at < net.cells; at++) {
                if (seenRail(at, place, chainValue, 0) != seenZero[at]
                        || seenRail(at, place, chainValue, 1) != seenOne[at]) {
                    return false;
                }
            }
            return true;
        }
    }

    // ======== memories: the march, and the rows and columns to repair

    private static final class Memory {
        static final int MOST_SIGNS = 24;
        static final int SIDE = 8;
        private static final int ALL_ONES = 255;
        private static final char SOUND = '-';

        final char[] signs = new char[MOST_SIGNS];
        final int[] badBits = new int[SIDE];
        int typed;
        private char sort = SOUND;
        private int cellA;
        private int cellB;
        private int valueV;
        private int valueW;
        private int bits;

        static boolean isSign(char sign) {
            return isElement(sign) || isWrite(sign) || sign == 'z' || sign == 'o';
        }

        private static boolean isElement(char sign) {
            return sign == '^' || sign == 'v';
        }

        private static boolean isWrite(char sign) {
            return sign == '0' || sign == '1';
        }

        static boolean isKind(char kind) {
            return kind == 's' || kind == 't' || kind == 'c' || kind == 'i' || kind == 'a';
        }

        private static boolean isOfTwoCells(char kind) {
            return kind == 'c' || kind == 'i' || kind == 'a';
        }

        static boolean isFault(char kind, int a, int b, int v, int w) {
            if (!isKind(kind) || a < 0 || a >= SIDE) {
                return false;
            }
            if (isOfTwoCells(kind) && (b < 0 || b >= SIDE || a == b)) {
                return false;
            }
            if (kind != 'a' && v != 0 && v != 1) {
                return false;
            }
            return kind != 'c' || w == 0 || w == 1;
        }

        int type(char sign) {
            signs[typed] = sign;
            typed++;
            return typed;
        }

        boolean isMarchRight() {
            sort = SOUND;
            return typed > 0 && isElement(signs[0]) && readsAsWanted(0) && readsAsWanted(ALL_ONES);
        }

        boolean isFaultFound(char kind, int a, int b, int v, int w) {
            sort = kind;
            cellA = a;
            cellB = b;
            valueV = v;
            valueW = w;
            return !readsAsWanted(0) && !readsAsWanted(ALL_ONES);
        }

        int countFound(char kind) {
            int others = isOfTwoCells(kind) ? SIDE : 1;
            int vs = kind == 'a' ? 1 : 2;
            int ws = kind == 'c' ? 2 : 1;
            int many = 0;
            for (int a = 0; a < SIDE; a++) {
                for (int b = 0; b < others; b++) {
                    for (int vw = 0; vw < vs * ws; vw++) {
                        if (isFault(kind, a, b, vw & 1, vw >> 1) && isFaultFound(kind, a, b, vw & 1, vw >> 1)) {
                            many++;
                        }
                    }
                }
            }
            return many;
        }

        private boolean readsAsWanted(int first) {
            bits = first;
            if (sort == 's') {
                put(cellA, valueV);
            }
            for (int at = 0; at < typed; at++) {
                if (isElement(signs[at]) && !goThrough(at)) {
                    return false;
                }
            }
            return true;
        }

        private boolean goThrough(int element) {
            for (int step = 0; step < SIDE; step++) {
                int at = signs[element] == '^' ? step : SIDE - 1 - step;
                for (int next = element + 1; next < typed && !isElement(signs[next]); next++) {
                    if (!isActedRight(at, signs[next])) {
                        return false;
                    }
                }
            }
            return true;
        }

        private boolean isActedRight(int at, char sign) {
            int target = sort == 'a' && at == cellA ? cellB : at;
            if (isWrite(sign)) {
                write(target, sign == '0' ? 0 : 1);
                return true;
            }
            return held(target) == (sign == 'z' ? 0 : 1);
        }

        private int held(int at) {
            return (bits >> at) & 1;
        }

        private void put(int at, int value) {
            bits = value == 0 ? bits & ~(1 << at) : bits | 1 << at;
        }

        private void write(int at, int value) {
            boolean isAtA = at == cellA;
            boolean isTurned = held(at) != value;
            if (sort == 's' && isAtA || sort == 't' && isAtA && value == valueV && isTurned) {
                return;
            }
            put(at, value);
            if (isAtA && isTurned && value == valueV) {
                if (sort == 'c') {
                    put(cellB, valueW);
                } else if (sort == 'i') {
                    put(cellB, 1 - held(cellB));
                }
            }
        }

        // ---- repair

        int mark(int row, int column, boolean isBad) {
            int bit = 1 << column;
            badBits[row] = isBad ? badBits[row] | bit : badBits[row] & ~bit;
            int many = 0;
            for (int at = 0; at < SIDE; at++) {
                many += Integer.bitCount(badBits[at]);
            }
            return many;
        }

        // With its rows told, a repair needs just the columns of what they leave; as rows rise, the
        // first one of the fewest is the one that is wanted.
        int rowsToSpare(int rows, int columns) {
            int best = NONE;
            int fewest = 2 * SIDE + 1;
            for (int spared = 0; spared < 1 << SIDE; spared++) {
                int ownRows = Integer.bitCount(spared);
                int ownColumns = Integer.bitCount(columnsLeft(spared));
                if (ownRows <= rows && ownColumns <= columns && ownRows + ownColumns < fewest) {
                    best = spared;
                    fewest = ownRows + ownColumns;
                }
            }
            return best;
        }

        private int columnsLeft(int spared) {
            int left = 0;
            for (int row = 0; row < SIDE; row++) {
                if (((spared >> row) & 1) == 0) {
                    left |= badBits[row];
                }
            }
            return left;
        }
    }

    // ======== boards

    private static final class Board {
        static final int MOST_WIRES = 12;
        private static final int INT_BITS = 32;

        final int[] stuckAt = new int[MOST_WIRES];
        final int[] joined = new int[MOST_WIRES];
        int many;
        private char kind = 'a';

        int layOut(int count, char sort) {
            int before = many;
            many = count;
            kind = sort;
            Arrays.fill(stuckAt, UNKNOWN);
            Arrays.fill(joined, 0);
            return before;
        }

        boolean isOpen(int wire) {
            return stuckAt[wire] != UNKNOWN;
        }

        int join(int wire, int other) {
            joined[wire] |= 1 << other;
            joined[other] |= 1 << wire;
            return Integer.bitCount(together(wire, (1 << many) - 1));
        }

        /** All that hang together with a wire through those that may. */
        private int together(int wire, int may) {
            int group = 1 << wire;
            for (int round = 1; round < many; round++) {
                for (int each = 0; each < many; each++) {
                    if (((group >> each) & 1) != 0) {
                        group |= joined[each] & may;
                    }
                }
            }
            return group;
        }

        private int whole() {
            int sum = 0;
            for (int wire = 0; wire < many; wire++) {
                if (!isOpen(wire)) {
                    sum |= 1 << wire;
                }
            }
            return sum;
        }

        private int codeBits() {
            return INT_BITS - Integer.numberOfLeadingZeros(many + 1);
        }

        private int allBits(char code) {
            return (1 << (code == 't' ? 2 * codeBits() : codeBits())) - 1;
        }

        int sent(int wire, char code) {
            int plain = wire + 1;
            if (code == 'c') {
                return plain;
            }
            int turned = ~plain & allBits('c');
            return plain | turned << codeBits();
        }

        int received(int wire, char code) {
            if (isOpen(wire)) {
                return stuckAt[wire] == 0 ? 0 : allBits(code);
            }
            int group = together(wire, whole());
            int all = sent(wire, code);
            for (int other = 0; other < many; other++) {
                if (((group >> other) & 1) != 0) {
                    all = kind == 'a' ? all & sent(other, code) : all | sent(other, code);
                }
            }
            return all;
        }
    }

    // ======== cores that share a bus and a power

    private static final class Cores {
        static final int MOST_CORES = 6;
        static final int MOST_TIME = 999;
        static final int MOST_WIDTH = 64;
        static final int MOST_POWER = 999;
        private static final int MOST_ORDERS = 720;

        final int[] time = new int[MOST_CORES];
        final int[] width = new int[MOST_CORES];
        final int[] power = new int[MOST_CORES];
        final int[] order = new int[MOST_CORES];
        final int[] begun = new int[MOST_CORES];
        final int[] best = new int[MOST_CORES];
        int count;

        int add(int lasting, int wide, int strong) {
            time[count] = lasting;
            width[count] = wide;
            power[count] = strong;
            count++;
            return count - 1;
        }

        boolean canRunEach(int bus, int supply) {
            for (int core = 0; core < count; core++) {
                if (width[core] > bus || power[core] > supply) {
                    return false;
                }
            }
            return true;
        }

        /** Returns the least end, and leaves in best when each core begins then. */
        int plan(int bus, int supply) {
            for (int index = 0; index < count; index++) {
                order[index] = index;
            }
            int leastEnd = NONE;
            boolean isMore = true;
            for (int round = 0; isMore && round < MOST_ORDERS; round++) {
                int end = endOfOrder(bus, supply);
                if (leastEnd < 0 || end < leastEnd) {
                    leastEnd = end;
                    System.arraycopy(begun, 0, best, 0, count);
                }
                isMore = nextOrder();
            }
            return leastEnd;
        }

        private int endOfOrder(int bus, int supply) {
            int now = 0;
            int end = 0;
            for (int index = 0; index < count; index++) {
                int core = order[index];
                for (int waits = 0; waits < index && !hasRoom(index, now, bus, supply); waits++) {
                    now = nextEnd(index, now);
                }
                begun[core] = now;
                end = Math.max(end, now + time[core]);
            }
            return end;
        }

        // All that are ahead have begun by now, so that what is free only grows from here on.
        private boolean hasRoom(int index, int now, int bus, int supply) {
            int wide = width[order[index]];
            int strong = power[order[index]];
            for (int ahead = 0; ahead < index; ahead++) {
                int core = order[ahead];
                if (begun[core] + time[core] > now) {
                    wide += width[core];
                    strong += power[core];
                }
            }
            return wide <= bus && strong <= supply;
        }

        private int nextEnd(int index, int now) {
            int next = now;
            for (int ahead = 0; ahead < index; ahead++) {
                int end = begun[order[ahead]] + time[order[ahead]];
                if (end > now && (next == now || end < next)) {
                    next = end;
                }
            }
            return next;
        }

        private boolean nextOrder() {
            int turn = count - 2;
            while (turn >= 0 && order[turn] > order[turn + 1]) {
                turn--;
            }
            if (turn < 0) {
                return false;
            }
            int higher = count - 1;
            while (higher > turn && order[higher] < order[turn]) {
                higher--;
            }
            swap(turn, higher);
            for (int low = turn + 1, high = count - 1; low < high; low++, high--) {
                swap(low, high);
            }
            return true;
        }

        private void swap(int one, int other) {
            int kept = order[one];
            order[one] = order[other];
            order[other] = kept;
        }
    }
}
