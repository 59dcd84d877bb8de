import java.io.IOException;
import java.lang.reflect.Method;
import java.lang.reflect.Modifier;
import java.nio.file.Files;
import java.nio.file.Path;
import java.util.HashSet;
import java.util.Set;
import java.util.regex.Matcher;
import java.util.regex.Pattern;

/** Rules of ../shared/LANGUAGE.md that can be seen from the source and the compiled class. */
public final class LanguageTest {
    private static final Pattern FORBIDDEN = Pattern.compile(
            "\\b(package|import|throw|throws|try|catch|finally|synchronized|assert|var|yield|native"
            + "|volatile|transient|record|sealed|Object|Float|Double|Character|Boolean|Thread"
            + "|Runtime|protected)\\b"
            + "|->|::|Exact\\b|System\\.(?!arraycopy)|static \\{|hashCode|equals|toString|@");
    private static final Pattern METHOD = Pattern.compile(
            "^ +(?:public |private |static |final )*[\\w\\[\\]]+ (\\w+)\\([^;]*\\{$");

    private boolean right = true;

    public static void main(String[] args) throws IOException {
        LanguageTest test = new LanguageTest();
        test.words();
        test.names();
        System.out.println(test.right ? "the language is as due" : "the language is not as due");
        if (!test.right) {
            System.exit(1);
        }
    }

    private void words() throws IOException {
        String name = "";
        int number = 0;
        int start = 0;
        for (String line : Files.readAllLines(Path.of(System.getProperty("program")))) {
            number++;
            if (!line.chars().allMatch(c -> c >= 32 && c < 127)) {
                wrong(number, "a sign that is not written so", line);
            }
            String code = line.replaceAll("^ *(/\\*\\*|\\*|//).*", "");
            if (FORBIDDEN.matcher(code).find()) {
                wrong(number, "not of the language", line);
            }
            Matcher method = METHOD.matcher(code);
            if (method.find()) {
                name = method.group(1);
                start = number;
            } else if (code.matches(" {4}(    )?\\}") && number - start > 60) {
                wrong(start, "a long method", name);
            }
        }
    }

    /** No method but those of the face bears one of their names. */
    private void names() {
        Set<String> face = new HashSet<>();
        for (Method method : DepositProofs.class.getDeclaredMethods()) {
            if (Modifier.isPublic(method.getModifiers())) {
                face.add(method.getName());
            }
        }
        hasNone(face, DepositProofs.class);
        for (Class<?> inside : DepositProofs.class.getDeclaredClasses()) {
            hasNone(face, inside);
            if (!Modifier.isStatic(inside.getModifiers()) || Modifier.isPublic(inside.getModifiers())) {
                wrong(0, "a class inside that is public or not static", inside.getName());
            }
        }
    }

    private void hasNone(Set<String> face, Class<?> type) {
        for (Method method : type.getDeclaredMethods()) {
            if (!Modifier.isPublic(method.getModifiers()) && face.contains(method.getName())) {
                wrong(0, "a name of the face", type.getName() + "." + method.getName());
            }
        }
    }

    private void wrong(int number, String what, String line) {
        right = false;
        System.out.println("line " + number + ", " + what + ": " + line.trim());
    }
}
