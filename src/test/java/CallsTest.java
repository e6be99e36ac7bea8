import java.lang.reflect.InvocationTargetException;
import java.lang.reflect.Method;
import java.util.Arrays;
import java.util.Comparator;
import java.util.Random;

/**
 * All promises: calls of any method with any arguments, in any state, throw nothing but what the document names, and
 * change nothing when they throw. An argument sets how many halls are made.
 */
public final class CallsTest {
    private static final int[] NUMBERS = {-2, -1, 0, 1, 2, 3, 4, 5, 6, 12, 13, 14, 15, 19, 20, 31, 32, 40, 41, 59, 60,
        199, 200, 600, 999, 1000, 1200, 5000, 9999, 12000, 12001, Integer.MAX_VALUE, Integer.MIN_VALUE};
    private static final char[] LETTERS = {'m', '2', 'M', 'x', 'X', 'k', 'o', 'g', 'a', '+', 'p', 'q', 0, 65535};

    public static void main(String[] args) throws IllegalAccessException {
        int halls = args.length > 0 ? Integer.parseInt(args[0]) : 150;
        Method[] methods = Arrays.stream(Blueline.class.getDeclaredMethods())
                .filter(method -> java.lang.reflect.Modifier.isPublic(method.getModifiers()))
                .sorted(Comparator.comparing(Method::getName)).toArray(Method[]::new);
        for (int seed = 0; seed < halls; seed++) {
            Random random = new Random(seed);
            Blueline hall = seed % 3 == 0 ? new Blueline() : seed % 3 == 1 ? Hall.twoClubs() : Hall.begun(seed % 32);
            for (int step = 0; step < 400; step++) {
                call(hall, methods[random.nextInt(methods.length)], random);
            }
            Hall.due("seed " + seed + " is sound", hall.isSound(), true);
        }
        Hall.end("CallsTest");
    }

    private static void call(Blueline hall, Method method, Random random) throws IllegalAccessException {
        Object[] arguments = new Object[method.getParameterCount()];
        for (int i = 0; i < arguments.length; i++) {
            arguments[i] = any(method.getParameterTypes()[i], random);
        }
        String what = method.getName() + Arrays.toString(arguments);
        String before = Hall.picture(hall);
        try {
            method.invoke(hall, arguments);
        } catch (InvocationTargetException e) {
            Class<?> thrown = e.getCause().getClass();
            Hall.due(what + " throws " + thrown, Arrays.asList(method.getExceptionTypes()).contains(thrown), true);
            Hall.due(what + " changes nothing", Hall.picture(hall), before);
        }
    }

    private static Object any(Class<?> type, Random random) {
        if (type == boolean.class) {
            return random.nextBoolean();
        }
        if (type == char.class) {
            return LETTERS[random.nextInt(LETTERS.length)];
        }
        boolean isSmall = random.nextInt(3) > 0;
        return isSmall ? random.nextInt(20) : NUMBERS[random.nextInt(NUMBERS.length)];
    }
}
