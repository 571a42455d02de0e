import java.io.IOException;
import java.lang.reflect.Constructor;
import java.lang.reflect.Field;
import java.lang.reflect.Method;
import java.lang.reflect.Modifier;
import java.nio.file.Files;
import java.nio.file.Path;
import java.util.Arrays;
import java.util.Set;
import java.util.TreeSet;
import java.util.regex.Matcher;
import java.util.regex.Pattern;

/** The class's face, and the words that LANGUAGE.md rules out. */
public final class LanguageTest {
    private static final String[] METHODS = {
        "int rack(int,int,int)", "int hang(int)", "int share(int,int)", "int empty(int)", "int gauge(int,long)",
        "int probe(boolean)", "int line(int)", "int none()", "int get(int,int)", "int set(int,int)",
        "int read(int,int,int)", "int write(int,int,int)", "int size(int)", "int within(int,int,int)",
        "int into(int,int,int,int)", "int pass(int,int,int)", "int takes(int)", "int gives(int)",
        "int step(int,int,int,int,int)", "int run(boolean)", "int met(int)", "int clear()", "int fault()",
        "int faults(int)", "int has()", "long value()", "int told(int)", "int same(int)",
    };
    private static final String[] CONSTANTS = {"UNKNOWN -1", "OUTSIDE -2", "STATE -3", "FULL -4", "NONE -9"};
    private static final String[] RULED_OUT = {
        "throw", "throws", "try", "catch", "finally", "synchronized", "assert", "import", "package", "->", "::",
        "Exact", "equals", "hashCode", "toString", "Random", "Thread", "System",
    };

    private static int wrong = 0;

    public static void main(String[] args) throws IOException, IllegalAccessException {
        methods();
        constants();
        constructors();
        classesInside();
        fieldTypes();
        words();
        methodLengths();
        System.out.println("LanguageTest: " + wrong + " breaches");
        if (wrong != 0) {
            System.exit(1);
        }
    }

    private static void check(boolean holds, String what) {
        if (!holds) {
            wrong++;
            System.out.println(what);
        }
    }

    private static String faceOf(Method m) {
        StringBuilder face = new StringBuilder(m.getReturnType() + " " + m.getName() + "(");
        Class<?>[] types = m.getParameterTypes();
        for (int i = 0; i < types.length; i++) {
            face.append(i == 0 ? "" : ",").append(types[i]);
        }
        return face.append(")").toString();
    }

    private static void methods() {
        Set<String> seen = new TreeSet<>();
        Set<String> publicNames = new TreeSet<>();
        for (Method m : ProbeRacks.class.getDeclaredMethods()) {
            if (!Modifier.isPrivate(m.getModifiers())) {
                seen.add(faceOf(m));
                publicNames.add(m.getName());
                check(Modifier.isPublic(m.getModifiers()), "rule 1: not public: " + m);
                check(!Modifier.isStatic(m.getModifiers()), "the face: static: " + m);
            }
            check(m.getParameterCount() <= 7, "rule 11: parameters: " + m);
        }
        check(seen.equals(new TreeSet<>(Arrays.asList(METHODS))), "the face: methods " + seen);
        for (Method m : ProbeRacks.class.getDeclaredMethods()) {
            check(!Modifier.isPrivate(m.getModifiers()) || !publicNames.contains(m.getName()), "rule 1: name: " + m);
        }
        for (Class<?> c : ProbeRacks.class.getDeclaredClasses()) {
            for (Method m : c.getDeclaredMethods()) {
                check(!publicNames.contains(m.getName()), "rule 1: name: " + m);
            }
        }
    }

    private static void constants() throws IllegalAccessException {
        Set<String> seen = new TreeSet<>();
        for (Field f : ProbeRacks.class.getDeclaredFields()) {
            int modifiers = f.getModifiers();
            if (Modifier.isPublic(modifiers)) {
                check(Modifier.isStatic(modifiers), "the face: no constant: " + f);
                seen.add(f.getName() + " " + f.getInt(null));
            } else {
                check(Modifier.isPrivate(modifiers), "rule 1: not private: " + f);
            }
            check(!Modifier.isStatic(modifiers) || Modifier.isFinal(modifiers), "rule 5: not final: " + f);
        }
        check(seen.equals(new TreeSet<>(Arrays.asList(CONSTANTS))), "the face: constants " + seen);
    }

    private static void constructors() {
        Constructor<?>[] all = ProbeRacks.class.getDeclaredConstructors();
        check(all.length == 1, "the face: constructors");
        check(all[0].getParameterCount() == 0 && Modifier.isPublic(all[0].getModifiers()), "the face: constructor");
        int modifiers = ProbeRacks.class.getModifiers();
        check(Modifier.isPublic(modifiers) && Modifier.isFinal(modifiers), "the face: public and final");
    }

    private static void classesInside() {
        Class<?>[] inside = ProbeRacks.class.getDeclaredClasses();
        check(inside.length < 12, "rule 11: classes");
        for (Class<?> c : inside) {
            int modifiers = c.getModifiers();
            check(Modifier.isStatic(modifiers), "rule 2: not static: " + c);
            check(!Modifier.isPublic(modifiers) && !Modifier.isProtected(modifiers), "rule 1: visible: " + c);
            check(c.getDeclaredFields().length <= 20, "rule 11: fields: " + c);
        }
    }

    private static void fieldTypes() {
        for (Field f : ProbeRacks.class.getDeclaredFields()) {
            Class<?> type = f.getType();
            boolean number = type == int.class || type == int[].class;
            check(!Modifier.isStatic(f.getModifiers()) || number, "rule 5: static: " + f);
            checkType(f);
        }
        for (Class<?> c : ProbeRacks.class.getDeclaredClasses()) {
            for (Field f : c.getDeclaredFields()) {
                check(!Modifier.isStatic(f.getModifiers()), "rule 5: static: " + f);
                checkType(f);
            }
        }
    }

    private static void checkType(Field f) {
        Class<?> type = f.getType().isArray() ? f.getType().getComponentType() : f.getType();
        check(type.isPrimitive() || type.getEnclosingClass() == ProbeRacks.class, "rule 3: type: " + f);
    }

    private static String codeWithoutComments() throws IOException {
        String text = Files.readString(Path.of("src/main/java/ProbeRacks.java"));
        check(text.chars().allMatch(c -> c < 128), "characters");
        return text.replaceAll("(?s)/\\*.*?\\*/", "").replaceAll("//[^\n]*", "");
    }

    private static void methodLengths() throws IOException {
        String[] lines = codeWithoutComments().split("\n");
        int start = 0;
        for (int i = 0; i < lines.length; i++) {
            if (lines[i].matches(" {4}( {4})?(public|private) .*\\) \\{")) {
                start = i;
            } else if (start > 0 && lines[i].matches(" {4}( {4})?}")) {
                boolean ends = lines[i].indexOf('}') == lines[start].indexOf('p');
                check(!ends || i - start < 60, "rule 11: long: " + lines[start].strip());
                start = ends ? 0 : start;
            }
        }
    }

    private static void words() throws IOException {
        String code = codeWithoutComments();
        check(!Pattern.compile("\\bnew \\w+\\([^)]*\\)\\s*\\{").matcher(code).find(), "rule 2: an anonymous class");
        check(!Pattern.compile("\\bwhile\\b").matcher(code).find(), "rule 9: a loop without a counter of its own");
        for (String word : RULED_OUT) {
            boolean named = Character.isLetter(word.charAt(0));
            Matcher m = Pattern.compile(named ? "\\b\\w*" + word + "\\b" : word).matcher(code);
            check(!m.find(), "ruled out: " + word);
        }
    }
}
