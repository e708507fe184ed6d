import java.lang.reflect.Constructor;
import java.lang.reflect.Field;
import java.lang.reflect.Member;
import java.lang.reflect.Method;
import java.lang.reflect.Modifier;
import java.util.ArrayList;
import java.util.Arrays;
import java.util.List;

/** The face is the document's, to the throws clauses, and there is nothing else that can be seen from outside. */
public final class FaceTest {
    private static final String[] FACE = {
        "int append(int) IllegalArgumentException IllegalStateException",
        "int bestPlot(int) IndexOutOfBoundsException",
        "int burial(int int int) IndexOutOfBoundsException IllegalArgumentException",
        "int bury(int int int) IndexOutOfBoundsException IllegalArgumentException IllegalStateException",
        "int buildVault(int int) IndexOutOfBoundsException IllegalStateException",
        "int clear(int) IndexOutOfBoundsException IllegalStateException",
        "int clearBuffer()",
        "int clearYear(int) IndexOutOfBoundsException",
        "int count(int) IllegalArgumentException",
        "int cutsOff(int) IndexOutOfBoundsException",
        "int deepest(int int) IndexOutOfBoundsException",
        "int family(int int) IndexOutOfBoundsException IllegalArgumentException",
        "int fee(int int int) IndexOutOfBoundsException IllegalArgumentException",
        "int firstError()",
        "int lay(int int) IndexOutOfBoundsException IllegalArgumentException IllegalStateException",
        "int load() IllegalArgumentException",
        "int pass(int) IllegalArgumentException IllegalStateException",
        "int plot(int int) IndexOutOfBoundsException IllegalArgumentException",
        "int reserve(int int int) IndexOutOfBoundsException IllegalArgumentException IllegalStateException",
        "int setParish(int boolean) IndexOutOfBoundsException",
        "int undo() IllegalStateException",
        "int why(int int int) IndexOutOfBoundsException IllegalArgumentException",
        "int yearFor(int int int) IndexOutOfBoundsException IllegalArgumentException",
        "double meanFee()",
        "long digest()",
    };

    private FaceTest() {
    }

    private static String names(Class<?>[] types, String before) {
        StringBuilder text = new StringBuilder();
        for (Class<?> type : types) {
            text.append(text.length() == 0 ? before : " ").append(type.getSimpleName());
        }
        return text.toString();
    }

    private static void seen(String what, Member member, boolean isFace) {
        int due = isFace ? Modifier.PUBLIC : Modifier.PRIVATE;
        int mask = Modifier.PUBLIC | Modifier.PRIVATE | Modifier.PROTECTED;
        Checks.due("access of " + what, member.getModifiers() & mask, due);
    }

    public static void main(String[] args) {
        Class<?> type = BurialGround.class;
        Checks.due("public and final", type.getModifiers(), Modifier.PUBLIC | Modifier.FINAL);
        List<String> missing = new ArrayList<>(Arrays.asList(FACE));
        List<String> publicNames = new ArrayList<>();
        for (String line : FACE) {
            publicNames.add(line.substring(line.indexOf(' ') + 1, line.indexOf('(')));
        }
        for (Method method : type.getDeclaredMethods()) {
            String line = method.getReturnType().getSimpleName() + " " + method.getName() + "("
                + names(method.getParameterTypes(), "") + ")" + names(method.getExceptionTypes(), " ");
            boolean isFace = missing.remove(line);
            seen(line, method, isFace);
            Checks.due("a name of the face: " + line, publicNames.contains(method.getName()) ? 1 : 0, isFace ? 1 : 0);
        }
        Checks.due("missing: " + missing, missing.size(), 0);
        for (Field field : type.getDeclaredFields()) {
            seen(field.getName(), field, field.getName().equals("NONE"));
        }
        for (Constructor<?> constructor : type.getDeclaredConstructors()) {
            seen("constructor", constructor, constructor.getParameterCount() == 0);
        }
        Checks.end();
    }
}
