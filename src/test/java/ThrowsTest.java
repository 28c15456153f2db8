import java.lang.reflect.InvocationTargetException;
import java.lang.reflect.Method;
import java.lang.reflect.Modifier;
import java.util.ArrayList;
import java.util.Arrays;
import java.util.Comparator;
import java.util.List;
import java.util.Random;

/**
 * Calls of all kinds with numbers and signs of all kinds, the same ones each time, 512 on an object: what
 * is thrown is of a class that the document lists, and is thrown by the class's own words.
 */
public final class ThrowsTest {
    private static final int RUNS = 600;
    private static final int CALLS = 512;
    private static final int NET_CALLS = 60;
    private static final int[] NUMBERS = {Integer.MIN_VALUE, Integer.MAX_VALUE, Integer.MIN_VALUE + 1, -2, -1, 31, 32, 33, 39, 40,
        41, 63, 64, 65, 127, 200, 201, 255, 256, 4095, 4096, 65535, 65536, 1 << 30};
    private static final String SIGNS = "aonrxbvwudspdzoact^v01zosti\0\uffffq";

    private static final List<Method> METHODS = new ArrayList<>();
    private static Random random;
    private static int calls;
    private static int wrongs;

    public static void main(String[] args) throws Exception {
        for (Method method : StuckatBench.class.getDeclaredMethods()) {
            if (Modifier.isPublic(method.getModifiers())) METHODS.add(method);
        }
        METHODS.sort(Comparator.comparing(Method::getName));
        for (int run = 0; run < RUNS; run++) {
            random = new Random(run);
            StuckatBench x = new StuckatBench();
            boolean isWithNet = run % 4 != 0;
            for (int done = 0; done < CALLS; done++) {
                Method method = isWithNet && done < NET_CALLS ? netCall(done) : METHODS.get(random.nextInt(METHODS.size()));
                Object[] numbers = arguments(method);
                // Each cell gets data, so that most nets can be closed.
                if (isWithNet && done < NET_CALLS && method.getName().equals("data")) numbers[0] = done - 44;
                call(x, method, numbers);
            }
        }
        System.out.println(calls + " calls of " + RUNS + " runs, " + wrongs + " wrong");
        if (wrongs > 0) System.exit(1);
    }

    private static Method netCall(int done) {
        String name = done < 14 ? random.nextBoolean() ? "input" : "cell" : done < 44 ? "gate" : done < 56 ? "data"
            : done < NET_CALLS - 1 ? "output" : "close";
        for (Method method : METHODS) {
            if (method.getName().equals(name)) return method;
        }
        throw new IllegalStateException(name);
    }

    private static Object[] arguments(Method method) {
        Class<?>[] types = method.getParameterTypes();
        Object[] values = new Object[types.length];
        for (int k = 0; k < types.length; k++) {
            if (types[k] == boolean.class) {
                values[k] = random.nextBoolean();
            } else if (types[k] == char.class) {
                values[k] = SIGNS.charAt(random.nextInt(SIGNS.length()));
            } else {
                int dice = random.nextInt(6);
                values[k] = dice == 0 ? NUMBERS[random.nextInt(NUMBERS.length)] : random.nextInt(dice < 3 ? 250 : 12);
            }
        }
        return values;
    }

    private static void call(StuckatBench x, Method method, Object[] values) throws Exception {
        calls++;
        try {
            method.invoke(x, values);
        } catch (InvocationTargetException e) {
            Throwable thrown = e.getCause();
            boolean isListed = Arrays.asList(method.getExceptionTypes()).contains(thrown.getClass());
            // What the machine throws bears a message, or comes up in the library.
            StackTraceElement[] at = thrown.getStackTrace();
            boolean isOwn = thrown.getMessage() == null && at.length > 0 && at[0].getClassName().startsWith("StuckatBench");
            if (!isListed || !isOwn) {
                wrongs++;
                System.out.println(method.getName() + Arrays.toString(values) + ": " + thrown + " at " + Arrays.toString(at));
            }
        }
    }
}
