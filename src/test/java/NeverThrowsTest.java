import java.lang.reflect.InvocationTargetException;
import java.lang.reflect.Method;
import java.util.ArrayList;
import java.util.Comparator;
import java.util.List;
import java.util.Random;

/** Seeded runs of all methods with any arguments: no call throws, and the same calls give the same answers. */
public final class NeverThrowsTest {
    private static final int RUNS = 2000, CALLS = 512;
    private static final int LEAST_ANSWER = -13;
    private static final int[] FAR = {
        Integer.MIN_VALUE, Integer.MIN_VALUE + 1, -65536, -13, -9, -2, -1, 16, 17, 31, 32, 33, 64, 65536,
        Integer.MAX_VALUE - 1, Integer.MAX_VALUE,
    };

    private static int wrong = 0;

    public static void main(String[] args) throws IllegalAccessException {
        List<Method> methods = methodsInOrder();
        for (int seed = 0; seed < RUNS && wrong == 0; seed++) {
            long[] once = answersOf(methods, seed);
            long[] again = answersOf(methods, seed);
            for (int c = 0; c < CALLS && wrong == 0; c++) {
                check(once[c] == again[c], "run " + seed + ", call " + c + ": " + once[c] + ", then " + again[c]);
            }
        }
        System.out.println("NeverThrowsTest: " + RUNS + " runs of " + CALLS + " calls, " + wrong + " wrong");
        if (wrong != 0) {
            System.exit(1);
        }
    }

    private static void check(boolean holds, String what) {
        if (!holds) {
            wrong++;
            System.out.println(what);
        }
    }

    /** The machine tells methods in no order of its own; a run has to be the same each time. */
    private static List<Method> methodsInOrder() {
        List<Method> methods = new ArrayList<>();
        for (Method method : ProbeRacks.class.getMethods()) {
            if (method.getDeclaringClass() == ProbeRacks.class) {
                methods.add(method);
            }
        }
        methods.sort(Comparator.comparing(Method::getName));
        return methods;
    }

    private static long[] answersOf(List<Method> methods, int seed) throws IllegalAccessException {
        Random random = new Random(seed);
        ProbeRacks room = new ProbeRacks();
        long[] answers = new long[CALLS];
        for (int c = 0; c < CALLS; c++) {
            Method method = methods.get(random.nextInt(methods.size()));
            Object[] arguments = argumentsFor(method, random, seed % 10 + 2);
            try {
                answers[c] = ((Number) method.invoke(room, arguments)).longValue();
                boolean free = method.getReturnType() == long.class;
                check(free || answers[c] >= LEAST_ANSWER, "run " + seed + ", call " + c + ": " + method.getName());
            } catch (InvocationTargetException e) {
                check(false, "run " + seed + ", call " + c + ": " + method.getName() + " threw " + e.getCause());
            }
        }
        return answers;
    }

    private static Object[] argumentsFor(Method method, Random random, int oneFarIn) {
        Class<?>[] types = method.getParameterTypes();
        Object[] arguments = new Object[types.length];
        for (int i = 0; i < types.length; i++) {
            if (types[i] == boolean.class) {
                arguments[i] = random.nextBoolean();
            } else if (types[i] == long.class) {
                arguments[i] = random.nextLong() >> random.nextInt(64);
            } else if (random.nextInt(oneFarIn) == 0) {
                arguments[i] = FAR[random.nextInt(FAR.length)];
            } else {
                arguments[i] = random.nextInt(11);
            }
        }
        return arguments;
    }
}
