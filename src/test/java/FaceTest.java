import java.lang.reflect.Constructor;
import java.lang.reflect.Field;
import java.lang.reflect.Method;
import java.lang.reflect.Modifier;
import java.nio.file.Files;
import java.nio.file.Path;
import java.util.Arrays;
import java.util.List;
import java.util.TreeSet;
import java.util.regex.Matcher;
import java.util.regex.Pattern;

/** The public face of the document, and what can be seen of LANGUAGE.md's rules; run from the project's folder. */
public final class FaceTest {
    private static final Path SOURCE = Path.of("src/main/java/QuarrelBridges.java");
    private static final List<String> FACE = List.of("feed 1", "town 0", "fault 0", "told 1", "bridge 2", "couple 2",
        "force 2", "barge 2", "send 3", "home 1", "pass 1", "grieve 2", "drift 1", "undo 0", "could 4", "bestTheme 2",
        "who 2", "order 1", "toldHer 3", "lasts 2", "wornOut 0", "carried 1", "hire 2", "midstream 3", "fleet 1",
        "write 2", "tear 0", "judge 0", "seed 1", "keep 1", "goBack 1");
    private static final List<String> CONSTANTS = List.of("NONE -1", "UNKNOWN -1000000001", "OUTSIDE -1000000002",
        "NOT -1000000003", "FULL -1000000004");

    private static final Check check = new Check();

    public static void main(String[] args) throws Exception {
        classItself();
        methods();
        fields();
        classesInside();
        source(Files.readString(SOURCE));
        check.finish();
    }

    private static void classItself() {
        int modifiers = QuarrelBridges.class.getModifiers();
        check.holds("the class is public and final", Modifier.isPublic(modifiers) && Modifier.isFinal(modifiers));
        Constructor<?>[] constructors = QuarrelBridges.class.getDeclaredConstructors();
        check.due("constructors", constructors.length, 1);
        check.holds("public, without parameters",
            Modifier.isPublic(constructors[0].getModifiers()) && constructors[0].getParameterCount() == 0);
    }

    private static void methods() {
        TreeSet<String> found = new TreeSet<>();
        TreeSet<String> names = new TreeSet<>();
        for (Method m : QuarrelBridges.class.getDeclaredMethods()) {
            if (Modifier.isPublic(m.getModifiers())) {
                found.add(m.getName() + " " + m.getParameterCount());
                names.add(m.getName());
                check.holds(m.getName() + " answers int", m.getReturnType() == int.class);
                check.holds(m.getName() + " is the object's", !Modifier.isStatic(m.getModifiers()));
                check.holds(m.getName() + " takes ints",
                    Arrays.stream(m.getParameterTypes()).allMatch(p -> p == int.class));
            } else {
                check.holds(m.getName() + " is private", Modifier.isPrivate(m.getModifiers()));
            }
        }
        check.holds("the face is " + found, found.equals(new TreeSet<>(FACE)));
        for (Class<?> c : classesOf()) {
            for (Method m : c.getDeclaredMethods()) {
                boolean own = c == QuarrelBridges.class && Modifier.isPublic(m.getModifiers());
                check.holds(m.getName() + " bears no public name", own || !names.contains(m.getName()));
                check.holds(m.getName() + " takes at most seven", m.getParameterCount() <= 7);
            }
        }
    }

    private static void fields() throws IllegalAccessException {
        TreeSet<String> found = new TreeSet<>();
        for (Class<?> c : classesOf()) {
            int own = 0;
            for (Field f : c.getDeclaredFields()) {
                boolean fixed = Modifier.isStatic(f.getModifiers());
                own += fixed ? 0 : 1;
                check.holds(f.getName() + " is final if static", !fixed || Modifier.isFinal(f.getModifiers()));
                if (c == QuarrelBridges.class && !Modifier.isPrivate(f.getModifiers())) {
                    found.add(f.getName() + " " + f.getInt(null));
                }
            }
            check.holds(c.getSimpleName() + " has at most twenty fields", own <= 20);
        }
        check.holds("the constants are " + found, found.equals(new TreeSet<>(CONSTANTS)));
    }

    private static void classesInside() {
        check.holds("at most twelve classes", classesOf().length <= 12);
        for (Class<?> c : QuarrelBridges.class.getDeclaredClasses()) {
            check.holds(c.getSimpleName() + " is static", Modifier.isStatic(c.getModifiers()));
            check.holds(c.getSimpleName() + " is not public", !Modifier.isPublic(c.getModifiers()));
        }
    }

    private static Class<?>[] classesOf() {
        Class<?>[] inside = QuarrelBridges.class.getDeclaredClasses();
        Class<?>[] all = Arrays.copyOf(inside, inside.length + 1);
        all[inside.length] = QuarrelBridges.class;
        return all;
    }

    private static void source(String whole) {
        check.holds("signs 1 to 127 alone", whole.chars().allMatch(c -> c > 0 && c < 128));
        String code = whole.replaceAll("(?s)/\\*.*?\\*/", "").replaceAll("//[^\n]*", "").replaceAll("'.'", "'.'");
        for (String word : List.of("throw", "throws", "try", "catch", "synchronized", "assert", "package", "Object",
            "System.out", "equals", "hashCode", "toString", "static \\{", "volatile", "native")) {
            check.holds("no " + word, !Pattern.compile("\\b" + word).matcher(code).find());
        }
        check.holds("no lambda", !code.contains("->") && !code.contains("::"));
        check.holds("no Exact", !code.contains("Exact("));
        Matcher imports = Pattern.compile("import ([^;]*);").matcher(code);
        while (imports.find()) {
            check.holds("import " + imports.group(1), List.of("java.util.Arrays").contains(imports.group(1)));
        }
        methodLengths(code);
    }

    private static void methodLengths(String code) {
        String[] lines = code.split("\n");
        int begun = 0;
        for (int i = 0; i < lines.length; i++) {
            boolean head = lines[i].endsWith(") {") && (lines[i].matches(" {4}\\S.*") || lines[i].matches(" {8}\\S.*"));
            begun = head ? i : begun;
            boolean foot = lines[i].equals("    }") || lines[i].equals("        }");
            check.holds("line " + i + ": at most sixty lines", !foot || begun == 0 || i - begun <= 60);
            begun = foot ? 0 : begun;
        }
    }
}
