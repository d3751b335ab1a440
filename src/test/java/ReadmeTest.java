import java.io.File;
import java.io.IOException;
import java.lang.reflect.Method;
import java.lang.reflect.Modifier;
import java.nio.file.Files;
import java.nio.file.Path;
import java.util.HashMap;
import java.util.Map;
import java.util.regex.Matcher;
import java.util.regex.Pattern;

/** That README.md says what is so: its example is run, and it names each method and each test. */
public final class ReadmeTest {
    private static final Check check = new Check("ReadmeTest");
    private static final Pattern EXAMPLE = Pattern.compile("(?s)```java\n(.*?)```");
    private static final Pattern CALL = Pattern.compile("bench\\.(\\w+)\\(([^)]*)\\); +// (-?\\d+): .+");

    public static void main(String[] args) throws IOException, ReflectiveOperationException {
        String readme = Files.readString(Path.of("README.md"));
        example(readme);
        methods(readme);
        tests(readme);
        check.end();
    }

    private static void example(String readme) throws ReflectiveOperationException {
        Matcher block = EXAMPLE.matcher(readme);
        check.holds("there is an example", block.find());
        String[] lines = block.group(1).split("\n");
        check.holds("it begins with a new object", lines[0].equals("ShortestCode bench = new ShortestCode();"));
        ShortestCode bench = new ShortestCode();
        for (int i = 1; i < lines.length; i++) {
            Matcher call = CALL.matcher(lines[i]);
            boolean matches = call.matches();
            check.holds("a call with its answer: " + lines[i], matches);
            if (matches) {
                int answer = call(bench, call.group(1), call.group(2));
                check.due(lines[i], answer, Integer.parseInt(call.group(3)));
            }
        }
    }

    private static int call(ShortestCode bench, String name, String list) throws ReflectiveOperationException {
        String[] texts = list.isEmpty() ? new String[0] : list.split(", ");
        Class<?>[] types = new Class<?>[texts.length];
        Object[] numbers = new Object[texts.length];
        for (int i = 0; i < texts.length; i++) {
            types[i] = int.class;
            numbers[i] = Integer.valueOf(texts[i]);
        }
        return (Integer) ShortestCode.class.getMethod(name, types).invoke(bench, numbers);
    }

    private static void methods(String readme) {
        Map<String, Integer> rows = new HashMap<>();
        Matcher row = Pattern.compile("(?m)^\\| `(\\w+)\\(([^)]*)\\)` \\|").matcher(readme);
        while (row.find()) {
            int parameters = row.group(2).isEmpty() ? 0 : row.group(2).split(", ").length;
            check.holds(row.group(1) + " has one row", rows.put(row.group(1), parameters) == null);
        }
        for (Method method : ShortestCode.class.getDeclaredMethods()) {
            if (Modifier.isPublic(method.getModifiers())) {
                Integer parameters = rows.remove(method.getName());
                check.holds(method.getName() + " has its row",
                    parameters != null && parameters == method.getParameterCount());
            }
        }
        check.holds("no row is of another method: " + rows.keySet(), rows.isEmpty());
    }

    private static void tests(String readme) {
        String[] names = new File("src/test/java").list();
        check.holds("there are tests", names != null && names.length > 0);
        for (String name : names == null ? new String[0] : names) {
            if (name.endsWith("Test.java")) {
                String test = name.substring(0, name.length() - ".java".length());
                check.holds(test + " is named", readme.contains("`" + test + "`"));
            }
        }
    }
}
