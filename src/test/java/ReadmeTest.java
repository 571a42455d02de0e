import java.io.IOException;
import java.lang.reflect.Method;
import java.nio.file.Files;
import java.nio.file.Path;
import java.util.Set;
import java.util.TreeSet;
import java.util.regex.Matcher;
import java.util.regex.Pattern;

/** Each call that README.md shows answers what stands behind it, and every method is shown. */
public final class ReadmeTest {
    private static final String NEW_ROOM = "ProbeRacks room = new ProbeRacks();";
    private static final Pattern CALL = Pattern.compile("room\\.(\\w+)\\((.*)\\); +// (-?\\d+)(:.*)?");

    private static int calls = 0, wrong = 0;
    private static final Set<String> shown = new TreeSet<>();

    public static void main(String[] args) throws IOException, ReflectiveOperationException {
        ProbeRacks room = null;
        boolean code = false;
        for (String line : Files.readAllLines(Path.of("README.md"))) {
            if (line.startsWith("```")) {
                code = line.equals("```java");
            } else if (code && line.equals(NEW_ROOM)) {
                room = new ProbeRacks();
            } else if (code) {
                tryCall(room, line);
            }
        }
        everyMethodIsShown();
        System.out.println("ReadmeTest: " + calls + " calls, " + wrong + " not as told");
        if (wrong != 0) {
            System.exit(1);
        }
    }

    private static void check(boolean holds, String what) {
        if (!holds) {
            wrong++;
            System.out.println(what);
        }
    }

    private static void tryCall(ProbeRacks room, String line) throws ReflectiveOperationException {
        Matcher m = CALL.matcher(line);
        if (room == null || !m.matches()) {
            check(false, "README.md: no call with an answer: " + line);
            return;
        }
        Method method = methodNamed(m.group(1));
        if (method == null) {
            check(false, "README.md: no such method: " + line);
            return;
        }
        calls++;
        shown.add(method.getName());
        long got = ((Number) method.invoke(room, argumentsOf(method, m.group(2)))).longValue();
        check(got == Long.parseLong(m.group(3)), "README.md: " + line + " answered " + got);
    }

    /** No two methods of the class bear one name. */
    private static Method methodNamed(String name) {
        for (Method method : ProbeRacks.class.getMethods()) {
            if (method.getDeclaringClass() == ProbeRacks.class && method.getName().equals(name)) {
                return method;
            }
        }
        return null;
    }

    private static Object[] argumentsOf(Method method, String text) {
        Class<?>[] types = method.getParameterTypes();
        String[] parts = text.isEmpty() ? new String[0] : text.split(", ");
        Object[] arguments = new Object[parts.length];
        for (int i = 0; i < parts.length; i++) {
            boolean toLong = i < types.length && types[i] == long.class;
            if (parts[i].equals("true") || parts[i].equals("false")) {
                arguments[i] = Boolean.valueOf(parts[i]);
            } else if (toLong) {
                arguments[i] = Long.valueOf(parts[i]);
            } else {
                arguments[i] = Integer.valueOf(parts[i]);
            }
        }
        return arguments;
    }

    private static void everyMethodIsShown() {
        for (Method method : ProbeRacks.class.getMethods()) {
            if (method.getDeclaringClass() == ProbeRacks.class) {
                check(shown.contains(method.getName()), "README.md: not shown: " + method.getName());
            }
        }
    }
}
