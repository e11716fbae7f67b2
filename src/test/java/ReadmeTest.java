import java.lang.reflect.Method;
import java.lang.reflect.Modifier;
import java.nio.file.Files;
import java.nio.file.Path;
import java.util.HashMap;
import java.util.Map;
import java.util.regex.Matcher;
import java.util.regex.Pattern;

/** README.md tells of every call, and its examples answer what is written behind their lines. */
public final class ReadmeTest {
    private static final Pattern CALL = Pattern.compile(
        "(?:int (\\w+) = )?x\\.(\\w+)\\(([^)]*)\\);(?:\\s*// ([^:\\s]+)(?::.*)?)?");
    private static final int LEAST_ANSWERS = 12;

    private static int wrong = 0;
    private static int answers = 0;

    public static void main(String[] args) throws Exception {
        String text = Files.readString(Path.of("README.md"));
        for (Method method : VersionJoins.class.getDeclaredMethods()) {
            if (Modifier.isPublic(method.getModifiers())) {
                check("the table tells of " + method.getName(), text.contains("| `" + method.getName() + "("));
            }
        }
        Matcher blocks = Pattern.compile("```java\n(.*?)```", Pattern.DOTALL).matcher(text);
        while (blocks.find()) {
            example(blocks.group(1));
        }
        check("there are examples with answers", answers >= LEAST_ANSWERS);
        System.out.println(wrong == 0 ? answers + " answers of the examples hold" : wrong + " faults of README.md");
        if (wrong != 0) {
            System.exit(1);
        }
    }

    private static void check(String what, boolean holds) {
        if (!holds) {
            wrong++;
            System.out.println("does not hold: " + what);
        }
    }

    private static void example(String block) throws Exception {
        VersionJoins x = new VersionJoins();
        Map<String, Object> numbers = new HashMap<>();
        for (String line : block.split("\n")) {
            if (line.equals("VersionJoins x = new VersionJoins();")) {
                continue;
            }
            Matcher call = CALL.matcher(line);
            if (!call.matches()) {
                check("a line that is a call: " + line, false);
                continue;
            }
            Object got = ask(x, call.group(2), call.group(3), numbers);
            if (call.group(1) != null) {
                numbers.put(call.group(1), got);
            }
            if (call.group(4) != null) {
                answers++;
                check(line + " but answered " + got, call.group(4).equals(String.valueOf(got)));
            }
        }
    }

    private static Object ask(VersionJoins x, String name, String list, Map<String, Object> numbers)
            throws Exception {
        String[] texts = list.isEmpty() ? new String[0] : list.split(", ");
        for (Method method : VersionJoins.class.getMethods()) {
            Class<?>[] types = method.getParameterTypes();
            if (method.getName().equals(name) && types.length == texts.length) {
                Object[] values = new Object[texts.length];
                for (int i = 0; i < texts.length; i++) {
                    values[i] = argument(types[i], String.valueOf(numbers.getOrDefault(texts[i], texts[i])));
                }
                return method.invoke(x, values);
            }
        }
        return "no such call";
    }

    private static Object argument(Class<?> type, String text) {
        if (type == boolean.class) {
            return Boolean.valueOf(text);
        }
        if (type == long.class) {
            return Long.valueOf(text);
        }
        return Integer.valueOf(text);
    }
}
