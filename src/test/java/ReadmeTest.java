import java.io.File;
import java.io.IOException;
import java.lang.reflect.Method;
import java.nio.file.Files;
import java.nio.file.Path;
import java.util.HashMap;
import java.util.Map;
import java.util.regex.Matcher;
import java.util.regex.Pattern;

/** README.md: its example answers what it says, and no call and no test is missing in it. */
final class ReadmeTest {
    private static final Pattern EXAMPLE = Pattern.compile("(?s)```java\n(.*?)```");
    private static final Pattern CALL = Pattern.compile(
            "(?:int (\\w+) = )?x\\.(\\w+)\\(([^)]*)\\); +// (-?\\w+).*");

    private final BulbPapers x = new BulbPapers();
    private final Map<String, Integer> names = new HashMap<>();

    private ReadmeTest() {
    }

    public static void main(String[] args) throws IOException, ReflectiveOperationException {
        String readme = Files.readString(Path.of("README.md"));
        new ReadmeTest().example(readme);
        everyCall(readme);
        everyTest(readme);
        Check.finish();
    }

    private void example(String readme) throws ReflectiveOperationException {
        Matcher block = EXAMPLE.matcher(readme);
        Check.due("README.md has an example", block.find(), true);
        for (String line : block.group(1).split("\n")) {
            if (line.isEmpty() || line.equals("BulbPapers x = new BulbPapers();")) {
                continue;
            }
            Matcher call = CALL.matcher(line);
            Check.due("a call with its answer: " + line, call.matches(), true);
            answer(call);
        }
    }

    private void answer(Matcher call) throws ReflectiveOperationException {
        Object[] values = values(call.group(3));
        Object got = methodNamed(call.group(2)).invoke(x, values);
        Check.due(call.group() + " but it is " + got, got.toString().equals(call.group(4)), true);
        if (call.group(1) != null) {
            names.put(call.group(1), (Integer) got);
        }
    }

    private Object[] values(String list) {
        if (list.isEmpty()) {
            return new Object[0];
        }
        String[] parts = list.split(", ");
        Object[] values = new Object[parts.length];
        for (int i = 0; i < parts.length; i++) {
            Integer named = names.get(parts[i]);
            values[i] = named != null ? named : Integer.decode(parts[i]);
        }
        return values;
    }

    private static Method methodNamed(String name) throws NoSuchMethodException {
        for (Method method : BulbPapers.class.getMethods()) {
            if (method.getName().equals(name)) {
                return method;
            }
        }
        throw new NoSuchMethodException(name);
    }

    private static void everyCall(String readme) {
        for (Method method : BulbPapers.class.getMethods()) {
            if (method.getDeclaringClass() == BulbPapers.class) {
                Check.due(method + " is told", readme.contains("| `" + method.getName() + "("), true);
            }
        }
    }

    private static void everyTest(String readme) {
        String[] files = new File("src/test/java").list();
        Check.due("tests are found", files != null && files.length > 0, true);
        for (String file : files) {
            String name = file.replace(".java", "");
            boolean isTest = name.endsWith("Test");
            Check.due(file + " is told", readme.contains(isTest ? "| " + name + " |" : "`" + name + "`"), true);
        }
    }
}
