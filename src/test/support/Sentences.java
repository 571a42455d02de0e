import java.lang.reflect.InvocationTargetException;
import java.lang.reflect.Method;
import java.util.Arrays;
import java.util.Comparator;

/** Runs every method of a class that is the test of a sentence, and tells each answer that is not due. */
abstract class Sentences {
    private static String sentence = "";
    private static int wrong = 0;
    private static int looked = 0;

    static void runAllOf(Class<?> tests) throws IllegalAccessException {
        Method[] methods = tests.getDeclaredMethods();
        Arrays.sort(methods, Comparator.comparing(Method::getName));
        int count = 0;
        for (Method method : methods) {
            Sentence words = method.getAnnotation(Sentence.class);
            if (words != null) {
                sentence = (words.of() == 0 ? "Terms" : "promise " + words.of()) + ": \"" + words.says() + "\"";
                count++;
                runOne(method);
            }
        }
        System.out.println(tests.getName() + ": " + count + " sentences, " + looked + " answers, " + wrong
            + " not as due");
        if (wrong != 0 || count == 0) {
            System.exit(1);
        }
    }

    private static void runOne(Method method) throws IllegalAccessException {
        int before = looked;
        method.setAccessible(true);
        try {
            method.invoke(null);
        } catch (InvocationTargetException e) {
            tell(method.getName() + " threw " + e.getCause());
        }
        if (looked == before) {
            tell(method.getName() + " looked at nothing");
        }
    }

    private static void tell(String what) {
        wrong++;
        System.out.println(sentence + ": " + what);
    }

    static void due(String call, long got, long want) {
        looked++;
        if (got != want) {
            tell(call + " answered " + got + ", due is " + want);
        }
    }

    static void due(String what, String got, String want) {
        looked++;
        if (!got.equals(want)) {
            tell(what + " is\n  " + got + "\ndue is\n  " + want);
        }
    }

    static void gaugeDue(String what, ProbeRacks x, int kind, long value) {
        due(what + ", has()", x.has(), kind);
        due(what + ", value()", x.value(), value);
    }

    /** The gauge gets what is at the place, so this comes after all that is asked of the gauge itself. */
    static void placeDue(ProbeRacks x, int rack, int i, int kind, long value) {
        due("get(" + rack + ", " + i + ")", x.get(rack, i), kind);
        due("value() of place " + i + " of rack " + rack, x.value(), value);
    }
}
