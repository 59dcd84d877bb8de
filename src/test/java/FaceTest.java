import java.lang.reflect.Constructor;
import java.lang.reflect.Field;
import java.lang.reflect.Method;
import java.lang.reflect.Modifier;
import java.util.ArrayList;
import java.util.Arrays;
import java.util.List;

/** The public face: what the document lists and nothing else. */
public final class FaceTest {
    private static final String[] CALLS = {
        "agree 2", "bestProof 1", "careBits 0", "clearText 0", "count 1", "decide 2", "dispute 2",
        "fault 1", "go 2", "keptBits 0", "look 3", "orderAt 2", "play 0", "proof 2", "set 2",
        "shareOf 3", "tenant 2", "tenantOf 2", "thing 5", "thingOf 2", "type 1", "undo 0",
        "wouldProve 2", "wouldSave 1",
    };
    private static final String[] CONSTANTS = {"INVALID_ARGUMENT -1", "LIMIT_REACHED -3",
        "NOT_FOUND -4", "NOT_POSSIBLE -2"};

    public static void main(String[] args) throws IllegalAccessException {
        List<String> calls = new ArrayList<>();
        boolean right = true;
        for (Method method : DepositProofs.class.getDeclaredMethods()) {
            if (Modifier.isPrivate(method.getModifiers())) {
                continue;
            }
            calls.add(method.getName() + " " + method.getParameterCount());
            right &= method.getModifiers() == Modifier.PUBLIC && method.getReturnType() == int.class;
            for (Class<?> type : method.getParameterTypes()) {
                right &= type == int.class;
            }
        }
        right &= same("calls", calls, CALLS);
        List<String> constants = new ArrayList<>();
        for (Field field : DepositProofs.class.getDeclaredFields()) {
            if (Modifier.isPrivate(field.getModifiers())) {
                continue;
            }
            right &= field.getModifiers() == (Modifier.PUBLIC | Modifier.STATIC | Modifier.FINAL);
            constants.add(field.getName() + " " + field.getInt(null));
        }
        right &= same("constants", constants, CONSTANTS);
        Constructor<?>[] constructors = DepositProofs.class.getDeclaredConstructors();
        right &= constructors.length == 1 && constructors[0].getParameterCount() == 0
                && constructors[0].getModifiers() == Modifier.PUBLIC;
        right &= DepositProofs.class.getModifiers() == (Modifier.PUBLIC | Modifier.FINAL);
        System.out.println(right ? "the face is as due" : "the face is not as due");
        if (!right) {
            System.exit(1);
        }
    }

    private static boolean same(String what, List<String> got, String[] want) {
        got.sort(null);
        if (got.equals(Arrays.asList(want))) {
            return true;
        }
        System.out.println(what + ": " + got + ", due are " + Arrays.asList(want));
        return false;
    }
}
