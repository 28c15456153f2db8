import java.lang.reflect.Constructor;
import java.lang.reflect.Field;
import java.lang.reflect.Method;
import java.lang.reflect.Modifier;
import java.nio.file.Files;
import java.nio.file.Path;
import java.util.ArrayList;
import java.util.List;
import java.util.Set;
import java.util.TreeSet;

/** The class has the document's face, with the exceptions in their order, and nothing else to be seen. */
public final class FaceTest {
    private static int wrongs;

    public static void main(String[] args) throws Exception {
        Set<String> due = new TreeSet<>(faceOfDocument());
        Set<String> has = new TreeSet<>();
        Set<String> publicNames = new TreeSet<>();
        for (Method method : StuckatBench.class.getDeclaredMethods()) {
            if (Modifier.isPublic(method.getModifiers())) {
                has.add(signature(method));
                publicNames.add(method.getName());
            } else {
                say(Modifier.isPrivate(method.getModifiers()), method + " is neither public nor private");
            }
        }
        for (Method method : StuckatBench.class.getDeclaredMethods()) {
            say(Modifier.isPublic(method.getModifiers()) || !publicNames.contains(method.getName()),
                method + " bears a public name");
        }
        for (String each : due) say(has.contains(each), "the class has not: " + each);
        for (String each : has) say(due.contains(each), "the document has not: " + each);
        say(has.size() == 71 - 1, "there are " + has.size() + " methods");
        for (Field field : StuckatBench.class.getDeclaredFields()) {
            say(Modifier.isPrivate(field.getModifiers()), field + " is not private");
            say(!Modifier.isStatic(field.getModifiers()) || Modifier.isFinal(field.getModifiers()), field + " is static");
        }
        Constructor<?>[] constructors = StuckatBench.class.getDeclaredConstructors();
        say(constructors.length == 1 && Modifier.isPublic(constructors[0].getModifiers()), "one public constructor");
        int modifiers = StuckatBench.class.getModifiers();
        say(Modifier.isPublic(modifiers) && Modifier.isFinal(modifiers), "public and final");
        say(StuckatBench.class.getSuperclass() == Object.class, "it extends a class");
        for (Class<?> inside : StuckatBench.class.getDeclaredClasses()) {
            int own = inside.getModifiers();
            say(Modifier.isStatic(own) && !Modifier.isPublic(own) && !Modifier.isProtected(own), inside + " is seen");
        }
        System.out.println(has.size() + " methods of the face, " + wrongs + " wrong");
        if (wrongs > 0) System.exit(1);
    }

    private static void say(boolean is, String text) {
        if (!is) {
            wrongs++;
            System.out.println(text);
        }
    }

    private static List<String> faceOfDocument() throws Exception {
        String text = Files.readString(Path.of("..", "shared", "DOC.md"));
        String face = text.substring(text.indexOf("```java"));
        face = face.substring(0, face.indexOf("```", 3));
        List<String> found = new ArrayList<>();
        for (String line : face.split("\n")) {
            String each = line.trim();
            if (each.startsWith("public ") && each.endsWith(";") && !each.startsWith("public StuckatBench")) {
                // The names of parameters are of no meaning here.
                int from = each.indexOf('(');
                int to = each.indexOf(')');
                String types = each.substring(from, to).replaceAll("(\\w+) \\w+", "$1");
                found.add(each.substring(7, from) + types + each.substring(to, each.length() - 1));
            }
        }
        return found;
    }

    private static String signature(Method method) {
        StringBuilder text = new StringBuilder(method.getReturnType().getSimpleName() + " " + method.getName() + "(");
        Class<?>[] parameters = method.getParameterTypes();
        for (int i = 0; i < parameters.length; i++) {
            text.append(i > 0 ? ", " : "").append(parameters[i].getSimpleName());
        }
        text.append(')');
        Class<?>[] thrown = method.getExceptionTypes();
        for (int i = 0; i < thrown.length; i++) {
            text.append(i > 0 ? ", " : " throws ").append(thrown[i].getSimpleName());
        }
        return text.toString();
    }
}
