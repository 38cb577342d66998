import java.lang.reflect.Method;
import java.lang.reflect.Modifier;
import java.nio.file.Files;
import java.nio.file.Path;
import java.util.regex.Matcher;
import java.util.regex.Pattern;

/** README.md's example answers as its comments say, and its table names every call; run from the project's folder. */
public final class ReadmeTest {
    private static final Pattern TEXT = Pattern.compile("String text = \"([^\"]*)\";");
    private static final Pattern CALL = Pattern.compile("(?m)^x\\.(\\w+)\\(([-0-9, ]*)\\);\\s*// ([-\\w]+)");

    private static final Check check = new Check();

    public static void main(String[] args) throws Exception {
        String readme = Files.readString(Path.of("README.md"));
        example(readme);
        table(readme);
        check.finish();
    }

    private static void example(String readme) throws Exception {
        Matcher text = TEXT.matcher(readme);
        boolean told = text.find();
        check.holds("README.md's example has a text", told);
        QuarrelBridges x = new QuarrelBridges();
        Check.feedAll(x, told ? text.group(1) : "");
        int calls = 0;
        Matcher call = CALL.matcher(readme);
        while (call.find()) {
            check.due(call.group(), answer(x, call.group(1), call.group(2)), number(call.group(3)));
            calls++;
        }
        check.due("calls of the example", calls, readme.split("(?m)^x\\.", -1).length - 1);
        check.holds("the example has calls", calls > 0);
    }

    private static int answer(QuarrelBridges x, String name, String list) throws Exception {
        String[] parts = list.isBlank() ? new String[0] : list.split(",");
        Class<?>[] types = new Class<?>[parts.length];
        Object[] values = new Object[parts.length];
        for (int i = 0; i < parts.length; i++) {
            types[i] = int.class;
            values[i] = Integer.valueOf(parts[i].trim());
        }
        return (Integer) QuarrelBridges.class.getMethod(name, types).invoke(x, values);
    }

    private static int number(String word) throws Exception {
        return word.matches("-?\\d+") ? Integer.parseInt(word) : QuarrelBridges.class.getField(word).getInt(null);
    }

    private static void table(String readme) {
        String rows = String.join("\n", readme.lines().filter(line -> line.startsWith("|")).toList());
        for (Method m : QuarrelBridges.class.getDeclaredMethods()) {
            if (Modifier.isPublic(m.getModifiers())) {
                check.holds("README.md's table names " + m.getName(), rows.contains("`" + m.getName() + "`"));
            }
        }
    }
}
