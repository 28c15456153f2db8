import java.lang.reflect.InvocationTargetException;
import java.lang.reflect.Method;
import java.util.ArrayList;
import java.util.HashMap;
import java.util.List;
import java.util.Map;
import java.util.Random;

/** Runs of calls, the same ones each time, answered by a StuckatBench and by Plain alike. */
public final class RandomRunsTest {
    private static final int RUNS = 1500;
    private static final Map<String, Method> REAL = new HashMap<>();
    private static final Map<String, Method> PLAIN = new HashMap<>();
    private static final List<String> NAMES = new ArrayList<>();

    private static Random random;
    private static StuckatBench real;
    private static Plain plain;
    private static final StringBuilder told = new StringBuilder();
    private static int calls;
    private static final Map<String, int[]> answered = new HashMap<>();

    public static void main(String[] args) throws Exception {
        int from = args.length > 0 ? Integer.parseInt(args[0]) : 0;
        int runs = args.length > 1 ? Integer.parseInt(args[1]) : RUNS;
        collect();
        for (int run = from; run < from + runs; run++) {
            random = new Random(run * 7919L + 13);
            real = new StuckatBench();
            plain = new Plain();
            told.setLength(0);
            if (!isAlike(run)) {
                System.out.println("run " + run + " differs:\n" + told);
                System.exit(1);
            }
        }
        for (String name : NAMES) {
            int[] each = answered.getOrDefault(name, new int[2]);
            if (each[0] == 0) {
                System.out.println(name + " never answered without an exception");
                System.exit(1);
            }
        }
        System.out.println(calls + " calls of " + runs + " runs answered alike");
    }

    private static void collect() {
        for (Method method : StuckatBench.class.getDeclaredMethods()) {
            if (java.lang.reflect.Modifier.isPublic(method.getModifiers())) {
                REAL.put(method.getName(), method);
                NAMES.add(method.getName());
            }
        }
        NAMES.sort(null);
        for (Method method : Plain.class.getDeclaredMethods()) {
            if (!java.lang.reflect.Modifier.isPrivate(method.getModifiers())) PLAIN.put(method.getName(), method);
        }
    }

    private static boolean isAlike(int run) throws Exception {
        boolean isBig = random.nextInt(40) == 0;
        int sources = 1 + random.nextInt(isBig ? 9 : 5);
        int gates = random.nextInt(isBig ? 25 : 12);
        if (random.nextInt(6) == 0 && !misuse(10)) return false;
        if (!lines(sources, gates)) return false;
        for (int i = 0; i < sources + gates; i++) {
            if (plain.isCell(i) && !call("data", i, random.nextInt(sources + gates))) return false;
        }
        if (random.nextInt(10) == 0 && !call("data", 0, 0)) return false;
        for (int i = 0; i < 1 + random.nextInt(3); i++) {
            if (!call("output", Math.max(0, sources + gates - 1 - random.nextInt(4)))) return false;
        }
        if (random.nextInt(10) == 0 && !misuse(10)) return false;
        if (!call("close")) return false;
        return misuse(isBig ? 60 : 150);
    }

    /** Sources ahead of all gates, or here and there amid them. */
    private static boolean lines(int sources, int gates) throws Exception {
        boolean isMixed = random.nextInt(3) == 0;
        int left = sources;
        for (int line = 0; line < sources + gates; line++) {
            boolean isSource = left > 0 && (!isMixed || line == 0 || left == sources + gates - line || random.nextInt(3) == 0);
            if (isSource) {
                left--;
                if (!call(random.nextInt(3) == 0 ? "cell" : "input")) return false;
            } else {
                int near = random.nextInt(3) == 0 ? random.nextInt(line) : Math.max(0, line - 1 - random.nextInt(4));
                if (!call("gate", pick("aonrxbvaonr"), near, random.nextInt(line))) return false;
            }
        }
        return true;
    }

    private static boolean misuse(int many) throws Exception {
        boolean isTying = random.nextInt(3) == 0;
        String[] often = {"pattern", "pattern", "make", "testPoint", "slow", "bridge", "breakChip", "mend", "record",
            "breakChain", "march", "shortWires", "core", "begins", "got", "bad", "setTime", "setRing", "faulty", "foundBy", "finds"};
        for (int i = 0; i < many; i++) {
            String name = NAMES.get(random.nextInt(NAMES.size()));
            if (random.nextInt(3) == 0) name = often[random.nextInt(often.length)];
            if (isTying && random.nextInt(3) == 0) name = "tie";
            if (name.equals("board") && random.nextInt(3) != 0) name = "openWire";
            if (name.equals("turnAbout") && random.nextInt(3) != 0) continue;
            if (name.equals("mergeAll") && random.nextInt(3) != 0) continue;
            if (!isSoundly(name)) return false;
        }
        return true;
    }

    private static boolean isSoundly(String name) throws Exception {
        if (name.equals("march") && random.nextInt(3) == 0) {
            return typeMarch();
        }
        return call(name, arguments(name));
    }

    private static boolean typeMarch() throws Exception {
        String[] known = {"^0^z1vo0", "^0^z1^o0vz1vo0vz", "v1vo0zv0z^z", "^0^z1ovo0z", "^", "^1v0^z", "^z", "0", "^0^o",
            "^1^o0z1ovo0v^z1o0"};
        String signs = known[random.nextInt(known.length)];
        if (!call("eraseMarch")) return false;
        for (char sign : signs.toCharArray()) {
            if (!call("march", sign)) return false;
        }
        for (char kind : "stcia".toCharArray()) {
            if (!call("marchCount", kind)) return false;
            for (int i = 0; i < 4; i++) {
                if (!call("marchFinds", kind, small(9), small(9), small(2), small(2))) return false;
            }
        }
        return call("isRight");
    }

    private static char pick(String text) {
        return text.charAt(random.nextInt(text.length()));
    }

    private static char pickOrWrong(String text) {
        return random.nextInt(25) == 0 ? pick("q? AS") : pick(text);
    }

    /** Mostly one of 0 to many - 1; at times just beyond, or far away. */
    private static int small(int many) {
        int dice = random.nextInt(60);
        if (dice == 0) return -1;
        if (dice == 1) return many;
        if (dice == 2) return random.nextInt();
        return many <= 0 ? 0 : random.nextInt(many);
    }

    private static Object[] arguments(String name) {
        int lines = plain.lineCount();
        int faults = plain.faults();
        int patterns = plain.patterns();
        int sources = plain.sourceCount();
        switch (name) {
            case "gate": return new Object[] {pickOrWrong("aonrxbv"), small(lines), small(lines)};
            case "data": return new Object[] {small(lines), small(lines)};
            case "output": case "testPoint": case "weight": return new Object[] {small(lines)};
            case "pattern": return patternArguments(sources);
            case "value": return new Object[] {small(patterns), small(lines)};
            case "faulty": return new Object[] {small(patterns), small(lines), small(faults)};
            case "lineOf": case "pinOf": case "alike": case "foundBy": case "make": case "isImpossible": case "tie":
            case "ways": case "breakChip": case "wrong": case "tally": return new Object[] {small(faults)};
            case "signature": return new Object[] {small(faults + 1) - 1};
            case "bridge": return new Object[] {pickOrWrong("wud"), small(lines), small(lines)};
            case "slow": return new Object[] {small(lines), random.nextBoolean()};
            case "finds": return new Object[] {small(faults), small(patterns), pickOrWrong("spd")};
            case "coverage": return new Object[] {pickOrWrong("spd")};
            case "merge": return new Object[] {small(patterns), small(patterns)};
            case "fill": return new Object[] {small(patterns), pickOrWrong("zoa")};
            case "power": case "seedFor": case "fails": return new Object[] {small(patterns)};
            case "known": return new Object[] {small(patterns), random.nextBoolean()};
            case "setRing": return ringArguments();
            case "chance": return new Object[] {small(65536), 1 + small(random.nextInt(30) == 0 ? 200 : 12)};
            case "candidate": return new Object[] {small(4)};
            case "breakChain": return new Object[] {small(6) - 1, small(2)};
            case "seen": return new Object[] {small(patterns), small(4)};
            case "setTime": return new Object[] {small(patterns), 1 + small(random.nextBoolean() ? 5 : 99)};
            case "orderAt": return new Object[] {small(patterns)};
            case "escapes": return new Object[] {small(patterns + 1)};
            case "march": return new Object[] {pickOrWrong("^v01zo")};
            case "marchFinds": return new Object[] {pickOrWrong("stcia"), small(8), small(8), small(2), small(2)};
            case "marchCount": return new Object[] {pickOrWrong("stcia")};
            case "bad": return new Object[] {small(8), small(8), random.nextInt(4) != 0};
            case "repair": return new Object[] {small(9), small(9)};
            case "board": return new Object[] {1 + small(12), pickOrWrong("ao")};
            case "openWire": return new Object[] {small(8), small(2)};
            case "shortWires": return new Object[] {small(8), small(8)};
            case "got": case "sameAs": return new Object[] {small(8), pickOrWrong("ct")};
            case "badWires": return new Object[] {pickOrWrong("ct")};
            case "core": return new Object[] {1 + small(30), 1 + small(6), small(8)};
            case "least": return new Object[] {5 + small(4), 6 + small(5)};
            case "begins": return new Object[] {5 + small(4), 6 + small(5), small(6)};
            default: return new Object[0];
        }
    }

    private static Object[] patternArguments(int sources) {
        int all = (1 << sources) - 1;
        int known = random.nextInt(3) == 0 ? all : random.nextInt(all + 1) | random.nextInt(all + 1);
        int ones = random.nextInt(all + 1) & known;
        int dice = random.nextInt(40);
        return new Object[] {dice == 0 ? known | 1 << sources : dice == 1 ? -1 : known,
            dice == 2 ? all : dice == 3 ? ~0 : ones};
    }

    private static Object[] ringArguments() {
        int bits = 2 + small(15);
        int taps = 1 + small(bits < 2 || bits > 16 ? 9 : (1 << bits) - 1);
        return new Object[] {bits, taps};
    }

    private static boolean call(String name, Object... arguments) throws Exception {
        calls++;
        told.append(name).append(java.util.Arrays.toString(arguments));
        Object one = answer(REAL.get(name), real, arguments);
        Object other = answer(PLAIN.get(name), plain, arguments);
        told.append(" -> ").append(one).append(one.equals(other) ? "" : " but plain: " + other).append('\n');
        int[] each = answered.computeIfAbsent(name, k -> new int[2]);
        each[one instanceof Class ? 1 : 0]++;
        return one.equals(other);
    }

    private static Object answer(Method method, Object on, Object[] arguments) throws Exception {
        try {
            method.setAccessible(true);
            return method.invoke(on, arguments);
        } catch (InvocationTargetException e) {
            return e.getCause().getClass();
        }
    }
}
