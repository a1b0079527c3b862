import java.lang.reflect.InvocationTargetException;
import java.lang.reflect.Method;
import java.lang.reflect.Modifier;
import java.util.Map;
import java.util.Random;
import java.util.TreeMap;

/** Makes calls by their names; what a call throws comes out as a failed test. */
final class Calls {
    /** The edges of boxes, lanes, kinds, sizes, ways and questions, with what lies right beside them. */
    private static final int[] NUMBERS = {0, 1, 2, 3, 4, 5, 6, 7, 8, 9, 10, 11, 12, 15, 16, 17, 20, 22, 23, 24, 26, 30, 31,
        32, 33, -1, -2, Integer.MAX_VALUE, Integer.MIN_VALUE};

    private Calls() {
    }

    /** The public calls, in the order of their names. */
    static Map<String, Method> all() {
        Map<String, Method> calls = new TreeMap<>();
        for (Method call : PatchAsks.class.getDeclaredMethods()) {
            if (Modifier.isPublic(call.getModifiers())) calls.put(call.getName(), call);
        }
        return calls;
    }

    static long answer(PatchAsks x, Method call, Object[] args) {
        try {
            return ((Number) call.invoke(x, args)).longValue();
        } catch (IllegalAccessException | InvocationTargetException thrown) {
            throw new AssertionError(told(call, args) + " threw", thrown);
        }
    }

    static String told(Method call, Object[] args) {
        StringBuilder told = new StringBuilder(call.getName()).append('(');
        for (int k = 0; k < args.length; k++) told.append(k == 0 ? "" : ", ").append(args[k]);
        return told.append(')').toString();
    }

    /** Mostly small numbers, so that many calls are done and not refused. */
    static Object[] anyArguments(Random random, Method call) {
        Class<?>[] types = call.getParameterTypes();
        Object[] args = new Object[types.length];
        for (int k = 0; k < types.length; k++) {
            if (types[k] == boolean.class) args[k] = random.nextBoolean();
            else if (types[k] == long.class) args[k] = random.nextInt(4) == 0 ? 0L : Words.any(random, random.nextInt(8));
            else args[k] = random.nextInt(3) == 0 ? NUMBERS[random.nextInt(NUMBERS.length)] : random.nextInt(7);
        }
        return args;
    }
}
