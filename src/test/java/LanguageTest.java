import java.io.IOException;
import java.lang.reflect.Field;
import java.lang.reflect.Method;
import java.lang.reflect.Modifier;
import java.nio.file.Files;
import java.nio.file.Path;
import java.util.ArrayList;
import java.util.HashMap;
import java.util.HashSet;
import java.util.List;
import java.util.Map;
import java.util.Set;
import java.util.regex.Matcher;
import java.util.regex.Pattern;

/** Rules of ../shared/LANGUAGE.md that can be seen from the source and the compiled class. */
public final class LanguageTest {
    private static final int MOST_PARAMETERS = 7;
    private static final int MOST_LINES = 60;
    private static final int MOST_DEEP = 8;
    private static final int MOST_CLASSES = 12;
    private static final int MOST_FIELDS = 20;

    private static final Pattern FORBIDDEN = Pattern.compile(
            "\\b(package|import|throw|throws|try|catch|finally|synchronized|assert|var|yield|native"
            + "|volatile|transient|record|sealed|Object|Float|Double|Character|Boolean|Thread"
            + "|Runtime|protected)\\b"
            + "|->|::|static \\{|hashCode|equals|toString|@");
    private static final Pattern COMMENT_OR_SIGN =
            Pattern.compile("/\\*.*?\\*/|//[^\n]*|'(?:\\\\.|[^'\\\\])'", Pattern.DOTALL);
    private static final Pattern METHOD = Pattern.compile(
            "^ +(?:(?:public|private|static|final) )*[\\w\\[\\]]+ (\\w+)\\(([^(){};]*)\\) \\{",
            Pattern.MULTILINE);
    private static final Pattern CALL = Pattern.compile("\\b(\\w+)\\(");
    /** What stands behind a class's name and a point: of the library, or of a class inside. */
    private static final Pattern OF_A_CLASS = Pattern.compile("\\b[A-Z]\\w*\\.\\w+");
    private static final Set<String> LIBRARY =
            Set.of("Math.max", "Math.min", "Integer.bitCount", "System.arraycopy");

    private final String source;
    private final Map<String, String> bodies = new HashMap<>();
    private final Map<String, Integer> depths = new HashMap<>();
    private boolean right = true;

    private LanguageTest(String text) {
        source = text;
    }

    public static void main(String[] args) throws IOException {
        LanguageTest test = new LanguageTest(Files.readString(Path.of(System.getProperty("program"))));
        test.signs();
        String code = test.withoutComments();
        test.words(code);
        test.library(code);
        test.methods(code);
        test.callsAreNotDeep();
        test.names();
        test.sizes();
        System.out.println(test.right ? "the language is as due" : "the language is not as due");
        if (!test.right) {
            System.exit(1);
        }
    }

    private void signs() {
        if (!source.chars().allMatch(c -> c == '\n' || c >= 32 && c < 127)) {
            wrong("a sign that is not written so", "");
        }
    }

    /** Comments may hold any word, and signs such as '{' would be taken for those of the code. */
    private String withoutComments() {
        return COMMENT_OR_SIGN.matcher(source).replaceAll(found -> found.group().startsWith("'") ? "0" : "");
    }

    private void words(String code) {
        for (String line : code.split("\n")) {
            if (FORBIDDEN.matcher(line).find()) {
                wrong("not of the language", line);
            }
        }
    }

    /** Rule 4 tells what of the library may be used: functions, but none of its constants. */
    private void library(String code) {
        Set<String> own = new HashSet<>();
        for (Class<?> inside : DepositProofs.class.getDeclaredClasses()) {
            own.add(inside.getSimpleName());
        }
        Matcher used = OF_A_CLASS.matcher(code);
        while (used.find()) {
            String name = used.group();
            if (!LIBRARY.contains(name) && !own.contains(name.substring(0, name.indexOf('.')))) {
                wrong("not of the library that may be used", name);
            }
        }
    }

    private void methods(String code) {
        Matcher method = METHOD.matcher(code);
        while (method.find()) {
            String name = method.group(1);
            String body = bodyFrom(code, method.end());
            if (bodies.put(name, body) != null) {
                wrong("two methods of one name, so that calls cannot be told apart", name);
            }
            if (method.group(2).split(",").length > MOST_PARAMETERS) {
                wrong("too many parameters", name);
            }
            if (body.split("\n").length > MOST_LINES) {
                wrong("a long method", name);
            }
        }
        for (Method known : DepositProofs.class.getDeclaredMethods()) {
            if (!bodies.containsKey(known.getName())) {
                wrong("a method that this test did not read", known.getName());
            }
        }
    }

    private static String bodyFrom(String code, int start) {
        int open = 1;
        int at = start;
        while (open > 0 && at < code.length()) {
            char sign = code.charAt(at);
            open += sign == '{' ? 1 : sign == '}' ? -1 : 0;
            at++;
        }
        return code.substring(start, at);
    }

    private void callsAreNotDeep() {
        for (String name : bodies.keySet()) {
            int depth = depthOf(name, new ArrayList<>());
            if (depth > MOST_DEEP) {
                wrong("calls " + depth + " deep", name);
            }
        }
    }

    private int depthOf(String name, List<String> open) {
        if (open.contains(name)) {
            wrong("a recursion", open.toString());
            return 0;
        }
        if (depths.containsKey(name)) {
            return depths.get(name);
        }
        open.add(name);
        int deepest = 0;
        Matcher call = CALL.matcher(bodies.get(name));
        while (call.find()) {
            if (bodies.containsKey(call.group(1))) {
                deepest = Math.max(deepest, depthOf(call.group(1), open));
            }
        }
        open.remove(name);
        depths.put(name, deepest + 1);
        return deepest + 1;
    }

    /** No method but those of the face bears one of their names. */
    private void names() {
        Set<String> face = new HashSet<>();
        for (Method method : DepositProofs.class.getDeclaredMethods()) {
            if (Modifier.isPublic(method.getModifiers())) {
                face.add(method.getName());
            }
        }
        hasNone(face, DepositProofs.class);
        for (Class<?> inside : DepositProofs.class.getDeclaredClasses()) {
            hasNone(face, inside);
            if (!Modifier.isStatic(inside.getModifiers()) || Modifier.isPublic(inside.getModifiers())) {
                wrong("a class inside that is public or not static", inside.getName());
            }
        }
    }

    private void hasNone(Set<String> face, Class<?> type) {
        for (Method method : type.getDeclaredMethods()) {
            if (!Modifier.isPublic(method.getModifiers()) && face.contains(method.getName())) {
                wrong("a name of the face", type.getName() + "." + method.getName());
            }
        }
    }

    private void sizes() {
        Class<?>[] inside = DepositProofs.class.getDeclaredClasses();
        if (inside.length + 1 > MOST_CLASSES) {
            wrong("too many classes", "");
        }
        fieldsOf(DepositProofs.class);
        for (Class<?> type : inside) {
            fieldsOf(type);
        }
    }

    /** Constants do not count among a class's fields; no other static field may be. */
    private void fieldsOf(Class<?> type) {
        int fields = 0;
        for (Field field : type.getDeclaredFields()) {
            if (!Modifier.isStatic(field.getModifiers())) {
                fields++;
            } else if (!Modifier.isFinal(field.getModifiers())) {
                wrong("a static field that is not final", field.getName());
            }
        }
        if (fields > MOST_FIELDS) {
            wrong("too many fields", type.getName());
        }
    }

    private void wrong(String what, String where) {
        right = false;
        System.out.println(what + ": " + where.trim());
    }
}
