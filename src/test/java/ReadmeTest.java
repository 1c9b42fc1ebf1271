import java.io.IOException;
import java.lang.reflect.Method;
import java.lang.reflect.Modifier;
import java.nio.file.DirectoryStream;
import java.nio.file.Files;
import java.nio.file.Path;
import java.util.ArrayList;
import java.util.List;
import java.util.regex.Matcher;
import java.util.regex.Pattern;

/** What README.md shows of the use of the class; run from the project's directory, as .ci/run does. */
public final class ReadmeTest {
    private static final Check check = new Check();
    private static final String NEW_OBJECT = "SeedChainer x = new SeedChainer();";
    private static final Pattern CALL = Pattern.compile("x\\.(\\w+)\\(([-0-9, ]*)\\); +// (-?\\d+|true|false|NONE)(: .*)?");

    public static void main(String[] args) throws IOException {
        String readme = Files.readString(Path.of("README.md"));
        List<String> shown = javaLines(readme);
        List<String> tests = testNames();
        check.test("each call is answered as README.md shows", () -> callAll(shown));
        check.test("each method of the face is shown", () -> everyMethodIsShown(shown));
        check.test("the script that runs the tests is named", () -> named(readme, ".ci/run\n"));
        check.test("each test is named", () -> tests.forEach(name -> named(readme, "`" + name + "`")));
        check.end();
    }

    /** The lines between "```java" and "```", all blocks one after another. */
    private static List<String> javaLines(String readme) {
        List<String> found = new ArrayList<>();
        boolean inside = false;
        for (String line : readme.split("\n")) {
            if (line.startsWith("```")) {
                inside = line.equals("```java");
            } else if (inside && !line.isBlank()) {
                found.add(line);
            }
        }
        return found;
    }

    private static List<String> testNames() throws IOException {
        List<String> names = new ArrayList<>();
        try (DirectoryStream<Path> files = Files.newDirectoryStream(Path.of("src/test/java"), "*Test.java")) {
            files.forEach(file -> names.add(file.getFileName().toString().replace(".java", "")));
        }
        return names;
    }

    private static void callAll(List<String> lines) {
        SeedChainer x = null;
        for (String line : lines) {
            Matcher call = CALL.matcher(line);
            if (line.equals(NEW_OBJECT)) {
                x = new SeedChainer();
            } else if (call.matches()) {
                check.same(line, answer(x, call.group(1), call.group(2)), call.group(3).replace("NONE", "-1"));
            } else {
                // A line that is passed over would be shown untested.
                check.same(line, "a line of another form", "a call with its answer");
            }
        }
    }

    private static String answer(SeedChainer x, String name, String arguments) {
        Object[] numbers = numbersOf(arguments);
        for (Method method : SeedChainer.class.getMethods()) {
            if (method.getName().equals(name) && method.getParameterCount() == numbers.length) {
                try {
                    return String.valueOf(method.invoke(x, numbers));
                } catch (ReflectiveOperationException thrown) {
                    return thrown.toString();
                }
            }
        }
        return "no such method";
    }

    private static Object[] numbersOf(String arguments) {
        if (arguments.isBlank()) {
            return new Object[0];
        }
        String[] parts = arguments.split(",");
        Object[] numbers = new Object[parts.length];
        for (int n = 0; n < parts.length; n++) {
            numbers[n] = Integer.valueOf(parts[n].strip());
        }
        return numbers;
    }

    private static void everyMethodIsShown(List<String> lines) {
        for (Method method : SeedChainer.class.getDeclaredMethods()) {
            if (Modifier.isPublic(method.getModifiers())) {
                String beginning = "x." + method.getName() + "(";
                check.due(method.getName() + " in README.md", lines.stream().anyMatch(line -> line.startsWith(beginning)), true);
            }
        }
    }

    private static void named(String readme, String name) {
        check.due(name + " in README.md", readme.contains(name), true);
    }
}
