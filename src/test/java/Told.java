import java.util.ArrayList;
import java.util.Collections;
import java.util.List;

/**
 * All that the methods tell of a bench. As calls may change it, and are promised for 512 calls alone,
 * some are asked of a bench that is built anew, then others of another one.
 */
final class Told {
    private static final int AT_ONCE = 250;
    private static final int MUCH_AT_ONCE = 1000000;
    private static final int MUCH = 2000;
    private static final int MAX = Integer.MAX_VALUE;

    private interface Question {
        Object ask(StuckatBench x);
    }

    private final Checks.Scene scene;
    private final List<String> names = new ArrayList<>();
    private final List<Question> questions = new ArrayList<>();
    private final List<String> told = new ArrayList<>();
    private int lines;
    private int sources;
    private int cells;
    private int faults;
    private int patterns;
    private int wires;
    private int cores;

    private Told(Checks.Scene scene) {
        this.scene = scene;
    }

    static String[] by(Checks.Scene scene) {
        Told all = new Told(scene);
        all.think();
        all.askEach(AT_ONCE);
        all.buildOn();
        all.goOn();
        all.goOnWithOthers();
        return all.told.toArray(new String[0]);
    }

    /** What changes nothing, each question asked of a bench of its own. */
    static String[] alone(Checks.Scene scene) {
        Told all = new Told(scene);
        all.think();
        all.askEach(1);
        return all.told.toArray(new String[0]);
    }

    /** The same, all asked of one bench, from the last question on; and told from the first one on. */
    static String[] backwards(Checks.Scene scene) {
        Told all = new Told(scene);
        all.think();
        Collections.reverse(all.names);
        Collections.reverse(all.questions);
        String measured = all.told.remove(0);
        all.askEach(MUCH_AT_ONCE);
        all.told.add(measured);
        Collections.reverse(all.told);
        return all.told.toArray(new String[0]);
    }

    private void think() {
        measure();
        askOfNet();
        askOfFaults();
        askOfPatterns();
        askOfAll();
        askOfOthers();
    }

    // ---- the means

    private static Object answerOf(Question question, StuckatBench x) {
        return Checks.answerOf(() -> question.ask(x));
    }

    private int countUntil(Class<?> refusal, java.util.function.BiFunction<StuckatBench, Integer, Object> call) {
        StuckatBench x = scene.built();
        int many = 0;
        while (many < 64) {
            int next = many;
            if (answerOf(y -> call.apply(y, next), x) == refusal) break;
            many++;
        }
        return many;
    }

    private void measure() {
        lines = countUntil(Checks.INDEX, (x, k) -> x.weight(k));
        sources = countUntil(Checks.ILLEGAL, (x, k) -> x.pattern(1 << k, 0));
        cells = countUntil(Checks.ILLEGAL, (x, k) -> x.breakChain(k, 0));
        wires = countUntil(Checks.INDEX, (x, k) -> x.got(k, 'c'));
        cores = countUntil(Checks.INDEX, (x, k) -> x.begins(MAX, MAX, k));
        faults = scene.built().faults();
        patterns = scene.built().patterns();
        told.add("lines, sources, cells, wires, cores: " + lines + " " + sources + " " + cells + " " + wires + " " + cores);
    }

    private void ask(String name, Question question) {
        names.add(name);
        questions.add(question);
    }

    private void askEach(int atOnce) {
        StuckatBench x = null;
        for (int k = 0; k < questions.size(); k++) {
            if (k % atOnce == 0) x = scene.built();
            told.add(names.get(k) + " " + answerOf(questions.get(k), x));
        }
    }

    /** Asked one behind the other of one bench, which they change. */
    private void askInRow(String name, Question... row) {
        StuckatBench x = scene.built();
        for (int k = 0; k < row.length; k++) told.add(name + " " + k + " " + answerOf(row[k], x));
    }

    // ---- what changes nothing

    private void askOfNet() {
        for (int k = 0; k < lines; k++) {
            int line = k;
            ask("weight " + k, x -> x.weight(line));
            for (int p = 0; p < patterns; p++) {
                int pattern = p;
                ask("value " + p + " " + k, x -> x.value(pattern, line));
                boolean isOneOfFew = lines * faults * patterns <= MUCH || p == 0 || p == patterns - 1;
                for (int f = 0; f < faults && isOneOfFew; f++) {
                    int fault = f;
                    ask("faulty " + p + " " + k + " " + f, x -> x.faulty(pattern, line, fault));
                }
            }
        }
    }

    private void askOfFaults() {
        for (int f = 0; f < faults; f++) {
            int fault = f;
            ask("lineOf " + f, x -> x.lineOf(fault));
            ask("pinOf " + f, x -> x.pinOf(fault));
            ask("alike " + f, x -> x.alike(fault));
            ask("isImpossible " + f, x -> x.isImpossible(fault));
            ask("ways " + f, x -> x.ways(fault));
            ask("foundBy " + f, x -> x.foundBy(fault));
            ask("signature " + f, x -> x.signature(fault));
            ask("wrong " + f, x -> x.wrong(fault));
            ask("tally " + f, x -> x.tally(fault));
            for (int p = 0; p < Math.min(patterns, 4); p++) {
                int pattern = p;
                ask("finds s " + f + " " + p, x -> x.finds(fault, pattern, 's'));
                ask("finds d " + f + " " + p, x -> x.finds(fault, pattern, 'd'));
                ask("finds p " + f + " " + p, x -> x.finds(fault, pattern, 'p'));
            }
        }
    }

    private void askOfPatterns() {
        for (int p = 0; p < patterns; p++) {
            int pattern = p;
            ask("known " + p, x -> x.known(pattern, false));
            ask("ones " + p, x -> x.known(pattern, true));
            ask("power " + p, x -> x.power(pattern));
            ask("seedFor " + p, x -> x.seedFor(pattern));
            ask("fails " + p, x -> x.fails(pattern));
            ask("orderAt " + p, x -> x.orderAt(pattern));
            ask("escapes " + p, x -> x.escapes(pattern));
            for (int k = 0; k < cells; k++) {
                int place = k;
                ask("seen " + p + " " + k, x -> x.seen(pattern, place));
            }
        }
    }

    private void askOfAll() {
        ask("faults", x -> x.faults());
        ask("classes", x -> x.classes());
        ask("patterns", x -> x.patterns());
        ask("coverage s", x -> x.coverage('s'));
        ask("coverage p", x -> x.coverage('p'));
        ask("coverage d", x -> x.coverage('d'));
        ask("meanFound", x -> x.meanFound());
        ask("signature", x -> x.signature(-1));
        ask("aliased", x -> x.aliased());
        ask("chance", x -> x.chance(5, 9));
        ask("chance", x -> x.chance(65535, 2));
        ask("hardest", x -> x.hardest());
        for (int k = 0; k < 4; k++) {
            int index = k;
            ask("candidate " + k, x -> x.candidate(index));
        }
        ask("suspects", x -> x.suspects());
        ask("cycles", x -> x.cycles());
        ask("isSound", x -> x.isSound());
    }

    private void askOfOthers() {
        ask("isRight", x -> x.isRight());
        for (char kind : "stcia".toCharArray()) ask("marchCount " + kind, x -> x.marchCount(kind));
        ask("repair 8 8", x -> x.repair(8, 8));
        ask("repair 8 0", x -> x.repair(8, 0));
        ask("repair 0 8", x -> x.repair(0, 8));
        for (int k = 0; k < wires; k++) {
            int wire = k;
            ask("got " + k, x -> x.got(wire, 't'));
            ask("sameAs " + k, x -> x.sameAs(wire, 'c'));
        }
        ask("badWires", x -> x.badWires('c'));
        int[][] rooms = {{MAX, MAX}, {64, 999}, {70, 1200}, {5, 6}, {3, 3}};
        for (int[] room : rooms) {
            ask("least " + room[0] + " " + room[1], x -> x.least(room[0], room[1]));
            for (int k = 0; k < cores; k++) {
                int core = k;
                ask("begins " + room[0] + " " + room[1] + " " + k, x -> x.begins(room[0], room[1], core));
            }
        }
    }

    // ---- what changes the bench, and tells by that what it was

    /** What is marked and taken, how much goes in, and the ring by a net of its own, if there is none. */
    private void buildOn() {
        List<Question> row = new ArrayList<>();
        for (int k = 0; k < lines; k++) {
            int line = k;
            row.add(x -> x.output(line));
            row.add(x -> x.data(line, 0));
        }
        for (int k = 0; k < 13; k++) row.add(k % 2 == 0 ? x -> x.input() : x -> x.cell());
        row.add(x -> x.gate('v', 0, 0));
        row.add(x -> x.output(0));
        row.add(x -> x.close());
        askInRow("building", row.toArray(new Question[0]));
        askInRow("closing", x -> x.close(), x -> x.faults(), x -> x.classes());
        askInRow("ring", x -> x.input(), x -> x.input(), x -> x.input(), x -> x.input(), x -> x.input(), x -> x.output(0),
            x -> x.close(), x -> x.chance(5, 1), x -> x.chance(5, 2), x -> x.pattern(31, 9), x -> x.seedFor(0),
            x -> x.pattern(1, 1), x -> x.seedFor(1), x -> x.pattern(15, 5), x -> x.seedFor(2), x -> x.signature(-1));
    }

    private void goOn() {
        StuckatBench x = scene.built();
        addAll(x);
        List<Question> tested = new ArrayList<>();
        for (int k = 0; k < lines; k++) {
            int line = k;
            tested.add(y -> y.testPoint(line));
        }
        tested.add(y -> y.classes());
        askInRow("testing", tested.toArray(new Question[0]));
        List<Question> tied = new ArrayList<>();
        List<Question> made = new ArrayList<>();
        for (int f = 0; f < faults; f++) {
            int fault = f;
            tied.add(y -> y.tie(fault));
            made.add(y -> y.make(fault) + " " + y.known(y.patterns() - 1, true));
        }
        askInRow("tying", tied.toArray(new Question[0]));
        askInRow("making", made.toArray(new Question[0]));
        List<Question> timed = new ArrayList<>();
        for (int p = 0; p < patterns; p++) {
            int pattern = p;
            timed.add(y -> y.setTime(pattern, 1));
            timed.add(y -> y.fill(pattern, 'o'));
        }
        askInRow("timing", timed.toArray(new Question[0]));
        askInRow("merging", y -> y.mergeAll(), y -> y.known(0, false), y -> y.merge(0, 1), y -> y.turnAbout());
        askInRow("mending", y -> y.mend());
        askInRow("recording", y -> y.record(), y -> y.breakChip(0), y -> y.record(), y -> y.mend(), y -> y.breakChip(0),
            y -> y.breakChip(1), y -> y.breakChip(0), y -> y.breakChain(-1, 0), y -> y.breakChain(0, 1));
    }

    /** Patterns, bridges and slow ones until there are no more. */
    private void addAll(StuckatBench x) {
        for (int k = 0; k < 33; k++) told.add("adding " + answerOf(y -> y.pattern(0, 0), x));
        for (int k = 0; k < 9; k++) told.add("adding " + answerOf(y -> y.slow(0, true), x));
        for (int k = 0; k < 9 * 5; k++) {
            int line = k % 5 + 1;
            told.add("adding " + answerOf(y -> y.bridge('w', line - 1, line), x));
            told.add("adding " + answerOf(y -> y.bridge('w', 0, line), x));
        }
    }

    private void goOnWithOthers() {
        List<Question> bits = new ArrayList<>();
        for (int k = 0; k < 64; k++) {
            int bit = k;
            bits.add(x -> x.bad(bit >> 3, bit & 7, false));
        }
        askInRow("bits", bits.toArray(new Question[0]));
        List<Question> signs = new ArrayList<>();
        for (int k = 0; k < 25; k++) signs.add(x -> x.march('^'));
        askInRow("march", signs.toArray(new Question[0]));
        askInRow("march", x -> x.eraseMarch(), x -> x.isRight());
        List<Question> wired = new ArrayList<>();
        for (int k = 0; k < wires; k++) {
            int wire = k;
            wired.add(x -> x.shortWires(0, wire));
            wired.add(x -> x.openWire(wire, 1));
        }
        wired.add(x -> x.board(1, 'a'));
        askInRow("wires", wired.toArray(new Question[0]));
        List<Question> cored = new ArrayList<>();
        for (int k = 0; k < 7; k++) cored.add(x -> x.core(1, 1, 0));
        cored.add(x -> x.least(64, 999));
        askInRow("cores", cored.toArray(new Question[0]));
    }
}
