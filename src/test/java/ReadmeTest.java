import java.io.IOException;
import java.lang.reflect.Field;
import java.lang.reflect.Method;
import java.lang.reflect.Modifier;
import java.nio.file.Files;
import java.nio.file.Path;
import java.util.ArrayList;
import java.util.List;
import java.util.regex.Matcher;
import java.util.regex.Pattern;
import java.util.stream.Stream;

/** README.md: its examples answer as it says, and it names all calls, constants and tests. */
public final class ReadmeTest {
    private static final Pattern CALL =
            Pattern.compile("flat\\.(\\w+)\\(([-\\d, ]*)\\); +// (-?\\d+)(:.*)?");
    private static final Pattern TYPING =
            Pattern.compile("for \\(char c : \"([^\"]*)\"\\.toCharArray\\(\\)\\) \\{ flat\\.type\\(c\\); \\}");
    private static final int LEAST_EXAMPLES = 2;

    private final Due due = new Due();
    private DepositProofs flat;

    public static void main(String[] args) throws IOException, ReflectiveOperationException {
        Path readme = Path.of(System.getProperty("readme"));
        String text = Files.readString(readme);
        ReadmeTest test = new ReadmeTest();
        test.examples(text);
        test.face(text);
        test.tests(text, readme.resolveSibling("src/test/java"));
        test.due.end();
    }

    private void examples(String text) throws ReflectiveOperationException {
        due.about("README: examples");
        int examples = 0;
        boolean inside = false;
        for (String line : text.split("\n")) {
            if (line.startsWith("```")) {
                inside = line.equals("```java");
                examples += inside ? 1 : 0;
            } else if (inside) {
                line(line);
            }
        }
        due.is("examples are read", Math.min(examples, LEAST_EXAMPLES), LEAST_EXAMPLES);
    }

    private void line(String line) throws ReflectiveOperationException {
        Matcher call = CALL.matcher(line);
        Matcher typing = TYPING.matcher(line);
        if (call.matches()) {
            due.is(line, answer(call.group(1), call.group(2)), Integer.parseInt(call.group(3)));
        } else if (typing.matches()) {
            Due.type(flat, typing.group(1));
        } else {
            due.is("a new object by \"" + line + "\"",
                    line.equals("DepositProofs flat = new DepositProofs();") ? 1 : 0, 1);
            flat = new DepositProofs();
        }
    }

    private int answer(String name, String arguments) throws ReflectiveOperationException {
        List<Object> numbers = new ArrayList<>();
        for (String number : arguments.isEmpty() ? new String[0] : arguments.split(", ")) {
            numbers.add(Integer.parseInt(number));
        }
        Class<?>[] types = new Class<?>[numbers.size()];
        java.util.Arrays.fill(types, int.class);
        return (int) DepositProofs.class.getMethod(name, types).invoke(flat, numbers.toArray());
    }

    private void face(String text) throws IllegalAccessException {
        due.about("README: the tables name all that the face has");
        for (Method method : DepositProofs.class.getDeclaredMethods()) {
            if (Modifier.isPublic(method.getModifiers())) {
                named(text, "`" + method.getName() + "`");
            }
        }
        for (Field field : DepositProofs.class.getDeclaredFields()) {
            if (Modifier.isPublic(field.getModifiers())) {
                named(text, "| `" + field.getName() + "` | " + field.getInt(null) + " |");
            }
        }
    }

    private void tests(String text, Path folder) throws IOException {
        due.about("README: the table names all tests");
        try (Stream<Path> files = Files.list(folder)) {
            files.map(file -> file.getFileName().toString()).filter(name -> name.endsWith("Test.java"))
                    .forEach(name -> named(text, "| `" + name.replace(".java", "") + "` |"));
        }
    }

    private void named(String text, String part) {
        due.is("it has " + part, text.contains(part) ? 1 : 0, 1);
    }
}
