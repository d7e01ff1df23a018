import java.io.IOException;
import java.lang.reflect.Method;
import java.lang.reflect.Modifier;
import java.nio.file.Files;
import java.nio.file.Path;
import java.util.Arrays;
import java.util.HashMap;
import java.util.List;
import java.util.Map;
import java.util.Set;
import java.util.TreeSet;
import java.util.regex.Matcher;
import java.util.regex.Pattern;
import java.util.stream.Stream;

/** README.md: every call of its example answers as it says there, and it leaves out no method and no test. */
public final class ReadmeTest {
    private static final Pattern MAKING = Pattern.compile("LayoutOptimizer code = new LayoutOptimizer\\((\\d+)\\);.*");
    private static final Pattern CALL = Pattern.compile("(?:int (?<name>\\w+) = )?"
            + "code\\.(?<method>\\w+)\\((?<numbers>[^()]*)\\); +// (?<due>-?\\d+|[A-Z]+)(?:: .*)?");

    private static final Class<?> FACE = LayoutOptimizer.class;

    private final Check check;
    private final Map<String, Integer> names = new HashMap<>();
    private LayoutOptimizer code;

    private ReadmeTest(Check check) {
        this.check = check;
    }

    public static void main(String[] args) throws IOException {
        List<String> readme = Files.readAllLines(Path.of("README.md"));
        List<String> example = example(readme);
        Set<String> tests = testClasses();
        Check check = new Check("README.md");
        check.test("each call of the example answers as it says there", c -> new ReadmeTest(c).make(example));
        check.test("the example makes each call of the public face", c -> everyMethod(c, example));
        check.test("each test class stands in the table", c -> everyTest(c, readme, tests));
        check.end();
    }

    private static List<String> example(List<String> readme) {
        int begin = readme.indexOf("```java") + 1;
        List<String> rest = readme.subList(begin, readme.size());
        return rest.subList(0, Math.max(0, rest.indexOf("```")));
    }

    private static Set<String> testClasses() throws IOException {
        Set<String> names = new TreeSet<>();
        try (Stream<Path> files = Files.list(Path.of("src/test/java"))) {
            files.map(file -> file.getFileName().toString())
                    .filter(name -> name.endsWith("Test.java"))
                    .forEach(name -> names.add(name.replace(".java", "")));
        }
        return names;
    }

    private void make(List<String> example) {
        check.dueTrue("the example is found", !example.isEmpty());
        for (String line : example) {
            Matcher making = MAKING.matcher(line);
            Matcher call = CALL.matcher(line);
            if (making.matches()) {
                code = new LayoutOptimizer(Integer.parseInt(making.group(1)));
            } else if (call.matches()) {
                makeCall(line, call);
            } else {
                // A line that could not be read would go untested.
                check.dueTrue("'" + line + "' is a call with its answer, or no code",
                        line.isBlank() || line.startsWith("//"));
            }
        }
    }

    private void makeCall(String line, Matcher call) {
        int[] numbers = Arrays.stream(call.group("numbers").split(", *"))
                .filter(text -> !text.isEmpty()).mapToInt(this::number).toArray();
        int answer = answer(call.group("method"), numbers);
        check.due(line, answer, number(call.group("due")));
        if (call.group("name") != null) {
            names.put(call.group("name"), answer);
        }
    }

    /** A number, a name that the example has given to an answer, or one of the constants. */
    private int number(String text) {
        if (names.containsKey(text)) {
            return names.get(text);
        }
        try {
            return text.matches("[A-Z]+") ? FACE.getField(text).getInt(null) : Integer.parseInt(text);
        } catch (ReflectiveOperationException e) {
            throw new IllegalStateException(text, e);
        }
    }

    private int answer(String method, int[] numbers) {
        Class<?>[] types = new Class<?>[numbers.length];
        Arrays.fill(types, int.class);
        try {
            return (int) FACE.getMethod(method, types).invoke(code, Arrays.stream(numbers).boxed().toArray());
        } catch (ReflectiveOperationException e) {
            throw new IllegalStateException(method, e);
        }
    }

    private static void everyMethod(Check check, List<String> example) {
        for (Method method : FACE.getDeclaredMethods()) {
            if (Modifier.isPublic(method.getModifiers())) {
                check.dueTrue("the example calls " + method.getName(),
                        example.stream().anyMatch(line -> line.contains("code." + method.getName() + "(")));
            }
        }
    }

    private static void everyTest(Check check, List<String> readme, Set<String> tests) {
        for (String test : tests) {
            check.dueTrue(test + " stands there", readme.stream()
                    .anyMatch(line -> line.startsWith("|") && line.contains("`" + test + "`")));
        }
    }
}
