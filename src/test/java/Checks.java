import java.io.IOException;
import java.io.UncheckedIOException;
import java.nio.file.Files;
import java.nio.file.Path;
import java.util.HashSet;
import java.util.IdentityHashMap;
import java.util.Map;
import java.util.NoSuchElementException;
import java.util.Set;
import java.util.regex.Matcher;
import java.util.regex.Pattern;

/** The means of the tests by promises: nets from short texts, and checks that tell where they fail. */
abstract class Checks {
    static final Class<?> ILLEGAL = IllegalArgumentException.class;
    static final Class<?> INDEX = IndexOutOfBoundsException.class;
    static final Class<?> UNSUPPORTED = UnsupportedOperationException.class;
    static final Class<?> STATE = IllegalStateException.class;
    static final Class<?> NO_ELEMENT = NoSuchElementException.class;
    static final Class<?> ARITHMETIC = ArithmeticException.class;
    static final int MIN = Integer.MIN_VALUE;
    static final int MAX = Integer.MAX_VALUE;
    // z = (a and b) or c; faults: a 0 1, b 2 3, c 4 5, d = a and b 6 7, z 8 9.
    static final String AND_OR = "i i i a0,1 o3,2 !4";
    // z = ((a and b) or (not a and b)) or b: what a is is of no meaning, so that 0 and 1 are impossible.
    static final String REDUNDANT = "i i v0 a0,1 a2,1 o3,4 o5,1 !6";
    static final String CHAIN = "i f f x0,1 n1,2 d1=3 d2=4";

    private static final Set<Class<?>> TOLD_OF = Set.of(ILLEGAL, INDEX, UNSUPPORTED, STATE, NO_ELEMENT, ARITHMETIC);
    private static final Map<Scene, String[]> TOLD = new IdentityHashMap<>();
    private static final Set<String> REFUSALS = new HashSet<>();
    private static final Pattern THROWS = Pattern.compile("Throws `(\\w+)` if");

    private static int toldOf;

    static int promise;
    static String sentence = "";
    static int tests;
    static int checks;
    static int wrongs;

    interface Call {
        Object answer();
    }

    interface Scene {
        StuckatBench built();
    }

    interface CallOn {
        Object answer(StuckatBench x);
    }

    /** A test of one sentence of a promise; what it throws by itself is a fault, too. */
    static void test(int number, String text, Runnable body) {
        promise = number;
        sentence = ", " + text;
        tests++;
        try {
            body.run();
        } catch (RuntimeException e) {
            wrong(e + " at " + e.getStackTrace()[0]);
        }
    }

    static void is(Object got, Object want) {
        checks++;
        if (!got.equals(want)) wrong("answered " + got + ", due is " + want);
    }

    /** The exception that is due, of this class itself and not of one below it. */
    static void throwsIt(Class<?> want, Call call) {
        checks++;
        Object got = answerOf(call);
        if (got != want) wrong("answered " + got + ", due is " + want);
    }

    /** The call is refused, and all that the other methods tell is behind it as it is without it. */
    static void refused(Class<?> want, Scene scene, CallOn call) {
        throwsIt(want, () -> call.answer(amid(scene)));
        REFUSALS.add(promise + " " + want.getSimpleName());
        checks++;
        if (promise != toldOf) TOLD.clear();
        toldOf = promise;
        String[] without = TOLD.computeIfAbsent(scene, each -> Told.by(() -> amid(each)));
        String[] with = Told.by(() -> {
            StuckatBench x = amid(scene);
            answerOf(() -> call.answer(x));
            return x;
        });
        for (int k = 0; k < without.length; k++) {
            if (k >= with.length || !with[k].equals(without[k])) {
                wrong("the refused call changed " + without[k] + " to " + (k < with.length ? with[k] : "nothing"));
                return;
            }
        }
    }

    private static boolean isPromise(int from, int to) {
        return promise >= from && promise <= to;
    }

    /** The scene, and all that its promise does not tell of, so that a change of that is seen, too. */
    static StuckatBench amid(Scene scene) {
        StuckatBench x = scene.built();
        if (isPromise(54, 69)) {
            build(x, CHAIN);
            x.close();
            for (String row : new String[] {"110", "0?1", "011"}) add(x, row);
            x.bridge('w', 0, 1);
            x.slow(2, true);
            x.setTime(1, 4);
        }
        if (!isPromise(32, 36)) x.setRing(5, 20);
        // Where there is no such fault or cell, these are refused.
        if (!isPromise(40, 46)) {
            answerOf(() -> x.breakChip(0));
            answerOf(() -> x.record());
        }
        if (!isPromise(47, 50)) answerOf(() -> x.breakChain(0, 1));
        if (!isPromise(54, 58)) type(x, "^0^z1vo0");
        if (!isPromise(59, 60)) x.bad(3, 5, true);
        if (!isPromise(61, 66)) {
            x.board(5, 'o');
            x.openWire(2, 0);
            x.shortWires(3, 4);
        }
        if (!isPromise(67, 69)) {
            x.core(5, 2, 3);
            x.core(4, 3, 3);
        }
        return x;
    }

    /** Numbers that are none of 0 to many - 1: the last ahead of them, the first behind, and the farthest. */
    static int[] outside(int many) {
        return new int[] {-1, many, MIN, MAX};
    }

    /** The same for numbers from a least to a most one. */
    static int[] outside(int least, int most) {
        return new int[] {least - 1, most + 1, MIN, MAX};
    }

    /** All signs but some, as far as a page of them, and the last one that there is. */
    static char[] signsBut(String taken) {
        StringBuilder text = new StringBuilder();
        for (char sign = 0; sign < 300; sign++) {
            if (taken.indexOf(sign) < 0) text.append(sign);
        }
        return text.append(Character.MAX_VALUE).toString().toCharArray();
    }

    /** What is answered, or the exception's class; one that no promise tells of is a fault by itself. */
    static Object answerOf(Call call) {
        try {
            return call.answer();
        } catch (RuntimeException e) {
            if (!TOLD_OF.contains(e.getClass())) wrong(e + " is of no promise");
            return e.getClass();
        }
    }

    private static void wrong(String text) {
        wrongs++;
        System.out.println("promise " + promise + sentence + ", line " + lineOfTest() + ": " + text);
    }

    private static String lineOfTest() {
        for (StackTraceElement at : new Throwable().getStackTrace()) {
            if (at.getClassName().matches("\\w+Test(\\$.*)?")) return at.getFileName() + ":" + at.getLineNumber();
        }
        return "?";
    }

    /** What the document writes, each row of blanks being one. */
    static String document() {
        try {
            return Files.readString(Path.of("..", "shared", "DOC.md")).replaceAll("\\s+", " ");
        } catch (IOException e) {
            throw new UncheckedIOException(e);
        }
    }

    /** Each exception that the document tells of, from a promise to another one, was seen to be thrown. */
    static void allRefused(int from, int to) {
        sentence = ", each exception that is told";
        String text = document();
        for (promise = from; promise <= to; promise++) {
            int next = text.indexOf("## Promise " + (promise + 1) + ":");
            Matcher told = THROWS.matcher(text).region(text.indexOf("## Promise " + promise + ":"), next < 0 ? text.length() : next);
            while (told.find()) {
                checks++;
                if (!REFUSALS.contains(promise + " " + told.group(1))) wrong("no test has " + told.group(1));
            }
        }
    }

    static void end() {
        System.out.println((tests > 0 ? tests + " tests of sentences, " : "") + checks + " checks, " + wrongs + " wrong");
        if (wrongs > 0) System.exit(1);
    }

    /** Lines from left to right: i, f, or a gate as a0,1; then data as d1=3 and outputs as !4. */
    static StuckatBench open(String text) {
        StuckatBench x = new StuckatBench();
        build(x, text);
        return x;
    }

    private static void build(StuckatBench x, String text) {
        for (String word : text.split(" ")) {
            String rest = word.substring(1);
            String[] numbers = rest.split("[,=]");
            if (word.equals("i")) {
                x.input();
            } else if (word.equals("f")) {
                x.cell();
            } else if (word.charAt(0) == 'd') {
                x.data(Integer.parseInt(numbers[0]), Integer.parseInt(numbers[1]));
            } else if (word.charAt(0) == '!') {
                x.output(Integer.parseInt(rest));
            } else {
                int last = numbers.length > 1 ? Integer.parseInt(numbers[1]) : -5;
                x.gate(word.charAt(0), Integer.parseInt(numbers[0]), last);
            }
        }
    }

    static StuckatBench net(String text, String... patterns) {
        StuckatBench x = open(text);
        x.close();
        for (String pattern : patterns) add(x, pattern);
        return x;
    }

    /** A pattern as its sources are written from the source 0 on, ? being not known. */
    static int add(StuckatBench x, String sources) {
        int known = 0;
        int ones = 0;
        for (int k = 0; k < sources.length(); k++) {
            if (sources.charAt(k) != '?') known |= 1 << k;
            if (sources.charAt(k) == '1') ones |= 1 << k;
        }
        return x.pattern(known, ones);
    }

    static String row(StuckatBench x, int pattern, int sources) {
        StringBuilder text = new StringBuilder();
        for (int k = 0; k < sources; k++) {
            boolean isKnown = (x.known(pattern, false) >> k & 1) != 0;
            boolean isOne = (x.known(pattern, true) >> k & 1) != 0;
            text.append(!isKnown ? '?' : isOne ? '1' : '0');
        }
        return text.toString();
    }

    /** A net of so many inputs, the first of which is an output; patterns as they are written. */
    static StuckatBench inputs(int many, String... patterns) {
        return net("i ".repeat(many) + "!0", patterns);
    }

    /** A row of lines, not closed: an input, and the same behind the same up to so many lines. */
    static StuckatBench rowOf(int many) {
        StuckatBench x = open("i !0");
        for (int k = 1; k < many; k++) x.gate('b', k - 1, 0);
        return x;
    }

    static StuckatBench closed(StuckatBench x) {
        x.close();
        return x;
    }

    static StuckatBench marching(String signs) {
        StuckatBench x = new StuckatBench();
        type(x, signs);
        return x;
    }

    private static void type(StuckatBench x, String signs) {
        for (char sign : signs.toCharArray()) x.march(sign);
    }
}
