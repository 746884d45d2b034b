import java.io.IOException;
import java.lang.reflect.Method;
import java.lang.reflect.Modifier;
import java.nio.file.Files;
import java.nio.file.Path;
import java.util.HashMap;
import java.util.Map;
import java.util.Set;
import java.util.TreeSet;
import java.util.regex.Matcher;
import java.util.regex.Pattern;

/** What README.md shows of the class's use is as the class answers, and it shows every call of the face. */
public final class ReadmeTest {
    private static final Pattern BLOCK = Pattern.compile("(?s)```java\n(.*?)```");
    private static final Pattern NEW = Pattern.compile("SluiceRules (\\w+) = new SluiceRules\\(\\);");
    private static final Pattern CALL = Pattern.compile(
            "(int|long) (\\w+) = (\\w+)\\.(\\w+)\\(([^)]*)\\); +// (-?\\d+)(?:, ([A-Z]+))?(?:: .+)?");

    private static int wrong = 0;
    private static int calls = 0;
    private static final Set<String> shown = new TreeSet<>();

    private static void fault(String row, String what) {
        wrong++;
        System.out.println("README.md, " + row + ": " + what);
    }

    private static int constant(String name) throws ReflectiveOperationException {
        return SluiceRules.class.getField(name).getInt(null);
    }

    private static int term(String text, Map<String, Long> values) throws ReflectiveOperationException {
        if (text.matches("-?\\d+")) {
            return Integer.parseInt(text);
        }
        if (text.startsWith("SluiceRules.")) {
            return constant(text.substring("SluiceRules.".length()));
        }
        if (!values.containsKey(text)) {
            throw new IllegalArgumentException("no such name: " + text);
        }
        return values.get(text).intValue();
    }

    private static int argument(String text, Map<String, Long> values) throws ReflectiveOperationException {
        int sum = 0;
        for (String part : text.split(" \\+ ")) {
            sum += term(part, values);
        }
        return sum;
    }

    private static long answer(SluiceRules object, String name, String arguments, Map<String, Long> values)
            throws ReflectiveOperationException {
        String[] texts = arguments.isEmpty() ? new String[0] : arguments.split(", ");
        Class<?>[] types = new Class<?>[texts.length];
        Object[] numbers = new Object[texts.length];
        for (int i = 0; i < texts.length; i++) {
            types[i] = int.class;
            numbers[i] = argument(texts[i], values);
        }
        Method method = SluiceRules.class.getMethod(name, types);
        return ((Number) method.invoke(object, numbers)).longValue();
    }

    private static void call(String row, Matcher parts, Map<String, SluiceRules> objects, Map<String, Long> values)
            throws ReflectiveOperationException {
        String name = parts.group(4);
        SluiceRules object = objects.get(parts.group(3));
        if (object == null) {
            fault(row, "no such object");
            return;
        }
        long got = answer(object, name, parts.group(5), values);
        long want = Long.parseLong(parts.group(6));
        calls++;
        shown.add(name);
        if (got != want) {
            fault(row, "answered " + got);
        }
        if (parts.group(7) != null && constant(parts.group(7)) != want) {
            fault(row, "the constant is another number");
        }
        if (parts.group(1).equals("long") != name.equals("given")) {
            fault(row, "is of another type");
        }
        if (values.put(parts.group(2), got) != null) {
            fault(row, "the name is taken");
        }
    }

    private static void example(String block) throws ReflectiveOperationException {
        Map<String, SluiceRules> objects = new HashMap<>();
        Map<String, Long> values = new HashMap<>();
        for (String row : block.split("\n")) {
            Matcher made = NEW.matcher(row);
            Matcher parts = CALL.matcher(row);
            if (made.matches()) {
                objects.put(made.group(1), new SluiceRules());
            } else if (parts.matches()) {
                call(row, parts, objects, values);
            } else if (!row.isBlank()) {
                fault(row, "is no call with its answer");
            }
        }
    }

    private static void everyCallIsShown() {
        for (Method method : SluiceRules.class.getDeclaredMethods()) {
            if (Modifier.isPublic(method.getModifiers()) && !shown.contains(method.getName())) {
                fault(method.getName(), "is not shown");
            }
        }
    }

    public static void main(String[] args) throws IOException, ReflectiveOperationException {
        Matcher blocks = BLOCK.matcher(Files.readString(Path.of("README.md")));
        while (blocks.find()) {
            example(blocks.group(1));
        }
        everyCallIsShown();
        System.out.println(wrong == 0 ? calls + " calls are as README.md shows them" : wrong + " rows are not as due");
        if (wrong != 0) {
            System.exit(1);
        }
    }
}
