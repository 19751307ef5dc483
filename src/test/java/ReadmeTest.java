import java.io.File;
import java.io.IOException;
import java.lang.reflect.InvocationTargetException;
import java.lang.reflect.Method;
import java.lang.reflect.Modifier;
import java.nio.file.Files;
import java.nio.file.Path;
import java.util.ArrayList;
import java.util.List;
import java.util.regex.Matcher;
import java.util.regex.Pattern;

/** README.md: its examples answer what they say, and it names every call and every test. */
public final class ReadmeTest {
    private static final Pattern CALL =
            Pattern.compile("x\\.(\\w+)\\((.*)\\);\\s+// (throws \\w+|true|false|NONE|-?\\d+)(: .*)?");
    private static final String NEW = "DueWheels x = new DueWheels();";
    private static final int LEAST_EXAMPLES = 4;

    public static void main(String[] args) throws IOException, IllegalAccessException {
        String readme = Files.readString(Path.of("README.md"));
        List<String> examples = examplesOf(readme);
        Check.is("there are examples", examples.size() >= LEAST_EXAMPLES, true);
        for (String example : examples) {
            looksAtExample(example);
        }
        looksAtNames(readme);
        Check.close("ReadmeTest");
    }

    private static List<String> examplesOf(String readme) {
        List<String> examples = new ArrayList<>();
        Matcher block = Pattern.compile("```java\n(.*?)```", Pattern.DOTALL).matcher(readme);
        while (block.find()) {
            examples.add(block.group(1));
        }
        return examples;
    }

    private static void looksAtExample(String example) throws IllegalAccessException {
        DueWheels x = null;
        for (String line : example.split("\n")) {
            Matcher call = CALL.matcher(line);
            if (line.equals(NEW)) {
                x = new DueWheels();
            } else if (x == null || !call.matches()) {
                Check.fails("no call with its answer: " + line);
            } else {
                String answer = answer(x, call.group(1), call.group(2));
                Check.is(line + " (answered " + answer + ")", answer.equals(due(call.group(3))), true);
            }
        }
    }

    private static String due(String told) {
        return told.equals("NONE") ? String.valueOf(DueWheels.NONE) : told;
    }

    private static String answer(DueWheels x, String name, String told) throws IllegalAccessException {
        Method call = named(name);
        if (call == null) {
            return "no such call";
        }
        String[] words = told.isEmpty() ? new String[0] : told.split(", ");
        Object[] values = new Object[words.length];
        for (int i = 0; i < words.length; i++) {
            values[i] = words[i].equals("true") || words[i].equals("false")
                    ? (Object) Boolean.valueOf(words[i]) : (Object) Integer.decode(words[i]);
        }
        try {
            return String.valueOf(call.invoke(x, values));
        } catch (InvocationTargetException e) {
            return "throws " + e.getCause().getClass().getSimpleName();
        }
    }

    private static Method named(String name) {
        for (Method m : DueWheels.class.getDeclaredMethods()) {
            if (Modifier.isPublic(m.getModifiers()) && m.getName().equals(name)) {
                return m;
            }
        }
        return null;
    }

    private static void looksAtNames(String readme) {
        for (Method m : DueWheels.class.getDeclaredMethods()) {
            if (Modifier.isPublic(m.getModifiers())) {
                String row = "(?s).*\n\\| `" + m.getName() + "\\((\\w+(, \\w+){" + (m.getParameterCount() - 1)
                        + "})\\)` \\|.*";
                String none = "(?s).*\n\\| `" + m.getName() + "\\(\\)` \\|.*";
                Check.is(m.getName() + " is told with its arguments",
                        readme.matches(m.getParameterCount() == 0 ? none : row), true);
            }
        }
        File[] tests = new File("src/test/java").listFiles((dir, name) -> name.endsWith("Test.java"));
        Check.is("there are tests", tests != null && tests.length > 0, true);
        for (File test : tests == null ? new File[0] : tests) {
            String name = test.getName().replace(".java", "");
            Check.is(name + " is told", readme.contains("\n| `" + name + "` |"), true);
        }
    }
}
