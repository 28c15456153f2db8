import java.nio.file.Files;
import java.nio.file.Path;
import java.util.Set;
import java.util.regex.Matcher;
import java.util.regex.Pattern;

/** What a reading of the text can tell of the rules of ../shared/LANGUAGE.md. */
public final class LanguageTest {
    private static final Path SOURCE = Path.of("src", "main", "java", "StuckatBench.java");
    private static final Set<String> LIBRARY = Set.of("Arrays.fill", "Arrays.copyOf", "Arrays.copyOfRange",
        "System.arraycopy", "Integer.bitCount", "Integer.numberOfTrailingZeros", "Integer.numberOfLeadingZeros",
        "Long.bitCount", "Long.numberOfTrailingZeros", "Math.max", "Math.min", "Math.abs", "Math.floorMod",
        "Math.floorDiv");
    private static final Set<String> THROWN = Set.of("IllegalStateException", "IllegalArgumentException",
        "IndexOutOfBoundsException", "ArithmeticException", "UnsupportedOperationException", "NoSuchElementException",
        "RuntimeException");
    private static int wrongs;

    public static void main(String[] args) throws Exception {
        String raw = Files.readString(SOURCE);
        String text = raw.replaceAll("(?s)/\\*.*?\\*/", "").replaceAll("//[^\n]*", "");
        forbidden(text);
        libraryCalls(text);
        thrown(text);
        sizes(text);
        for (int i = 0; i < raw.length(); i++) {
            say(raw.charAt(i) < 127, "a sign beyond 126 at " + i);
        }
        System.out.println("the text of the class keeps to the language, " + wrongs + " wrong");
        if (wrongs > 0) System.exit(1);
    }

    private static void say(boolean is, String text) {
        if (!is) {
            wrongs++;
            System.out.println(text);
        }
    }

    private static void forbidden(String text) {
        String[] words = {"->", "::", "\\btry\\b", "\\bcatch\\b", "\\bfinally\\b", "\\bsynchronized\\b", "\\bassert\\b",
            "\\bprotected\\b", "\\bpackage\\b", "\\bvolatile\\b", "\\bvar\\b", "\\binstanceof\\b", "\\byield\\b",
            "static\\s*\\{", "getClass", "hashCode", "toString", "currentTimeMillis", "nanoTime", "Random", "Exact\\("};
        for (String word : words) {
            say(!Pattern.compile(word).matcher(text).find(), "the text has " + word);
        }
        Matcher imports = Pattern.compile("import ([^;]*);").matcher(text);
        while (imports.find()) {
            say(Set.of("java.util.Arrays", "java.util.NoSuchElementException").contains(imports.group(1)), imports.group());
        }
        Matcher statics = Pattern.compile("static (?!final|int |boolean |void |long )[^\n]*").matcher(text);
        while (statics.find()) {
            say(false, statics.group());
        }
    }

    private static void libraryCalls(String text) {
        Matcher calls = Pattern.compile("\\b(Arrays|System|Integer|Long|Math|String|Character|Boolean)\\.(\\w+)").matcher(text);
        while (calls.find()) {
            say(LIBRARY.contains(calls.group()), calls.group() + " is no part of the library");
        }
    }

    private static void thrown(String text) {
        Matcher throwing = Pattern.compile("\\bthrow\\b([^;]*);").matcher(text);
        while (throwing.find()) {
            Matcher form = Pattern.compile("\\s+new (\\w+)\\((\"[^\"]*\")?\\)").matcher(throwing.group(1));
            say(form.matches() && THROWN.contains(form.group(1)), throwing.group());
        }
    }

    /** Methods stay short, with few parameters, and classes few, by the indentation of the text. */
    private static void sizes(String text) {
        int classes = 0;
        int begin = -1;
        String indent = "";
        String[] lines = text.split("\n");
        for (int i = 0; i < lines.length; i++) {
            if (lines[i].matches(".*\\bclass \\w+ \\{")) classes++;
            Matcher head = Pattern.compile("^( {4}| {8})(?! |if |for |while |switch |\\}|else)[^=;]*\\(([^)]*)\\)[^;=]*\\{$").matcher(lines[i]);
            if (head.find()) {
                begin = i;
                indent = head.group(1);
                say(head.group(2).split(",").length <= 7, "many parameters: " + lines[i]);
            }
            if (begin >= 0 && lines[i].equals(indent + "}")) {
                say(i - begin <= 60, "a long method: " + lines[begin]);
                begin = -1;
            }
        }
        say(classes <= 12, classes + " classes");
    }
}
