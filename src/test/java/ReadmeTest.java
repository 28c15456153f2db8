import java.net.URI;
import java.net.URL;
import java.net.URLClassLoader;
import java.nio.file.Files;
import java.nio.file.Path;
import java.util.List;
import java.util.regex.Matcher;
import java.util.regex.Pattern;
import javax.tools.JavaCompiler;
import javax.tools.SimpleJavaFileObject;
import javax.tools.ToolProvider;

/** What README.md's examples say that calls answer is what they answer. */
public final class ReadmeTest {
    private static final Pattern EXAMPLE = Pattern.compile("```java\\n(.*?)```", Pattern.DOTALL);
    private static final Pattern ANSWERED = Pattern.compile("(?:(int \\w+) = )?(.*); *// (\\S+)");

    public static void main(String[] args) throws Exception {
        Matcher example = EXAMPLE.matcher(Files.readString(Path.of("README.md")));
        StringBuilder text = new StringBuilder("public final class Examples { public static int wrongs; public static int calls;\n"
            + "static void is(String call, Object got, String want) { calls++;"
            + " if (!got.toString().equals(want)) { wrongs++; System.out.println(call + \" answered \" + got + \", not \" + want); } }\n"
            + "public static void main(String[] args) {\n");
        while (example.find()) text.append("{\n").append(checked(example.group(1))).append("}\n");
        Class<?> examples = compiled(text.append("} }").toString());
        examples.getMethod("main", String[].class).invoke(null, (Object) new String[0]);
        int wrongs = examples.getField("wrongs").getInt(null);
        int calls = examples.getField("calls").getInt(null);
        System.out.println(calls + " calls of the examples, " + wrongs + " wrong");
        if (wrongs > 0 || calls == 0) System.exit(1);
    }

    private static String checked(String example) {
        StringBuilder text = new StringBuilder();
        for (String line : example.split("\n")) {
            Matcher answered = ANSWERED.matcher(line);
            if (!answered.matches()) {
                text.append(line).append('\n');
                continue;
            }
            String call = answered.group(2);
            String got = call;
            if (answered.group(1) != null) {
                text.append(answered.group(1)).append(" = ").append(call).append(";\n");
                got = answered.group(1).substring(4);
            }
            text.append("is(\"").append(call.replace("\"", "\\\"")).append("\", ").append(got).append(", \"");
            text.append(answered.group(3)).append("\");\n");
        }
        return text.toString();
    }

    private static Class<?> compiled(String text) throws Exception {
        Path out = Files.createTempDirectory("examples");
        JavaCompiler compiler = ToolProvider.getSystemJavaCompiler();
        SimpleJavaFileObject source = new SimpleJavaFileObject(URI.create("string:///Examples.java"), SimpleJavaFileObject.Kind.SOURCE) {
            @Override
            public CharSequence getCharContent(boolean isLax) {
                return text;
            }
        };
        List<String> options = List.of("-d", out.toString(), "-cp", System.getProperty("java.class.path"));
        if (!compiler.getTask(null, null, null, options, null, List.of(source)).call()) {
            System.out.println(text);
            System.exit(1);
        }
        Class<?> made = new URLClassLoader(new URL[] {out.toUri().toURL()}).loadClass("Examples");
        try (java.util.stream.Stream<Path> files = Files.list(out)) {
            for (Path each : files.toList()) Files.delete(each);
        }
        Files.delete(out);
        return made;
    }
}
