import java.io.IOException;
import java.lang.reflect.Constructor;
import java.lang.reflect.Field;
import java.lang.reflect.Member;
import java.lang.reflect.Method;
import java.lang.reflect.Modifier;
import java.nio.file.Files;
import java.nio.file.Paths;
import java.util.ArrayList;
import java.util.List;
import java.util.regex.Matcher;
import java.util.regex.Pattern;

/**
 * The face is the document's, to the throws clauses, and there is nothing else that can be seen from outside. What a
 * compiled class does not tell, the names of the parameters, the order and the headings, is read in the source.
 */
public final class FaceTest {
    private static final String SOURCE = "src/main/java/BurialGround.java";
    private static final String INDEX = "IndexOutOfBoundsException";
    private static final String ARGUMENT = "IllegalArgumentException";
    private static final String STATE = "IllegalStateException";
    /** "The public face", word by word, and ahead of which calls the interface says what ("---- .."). */
    private static final String[] FACE = {
        "public final class BurialGround",
        "public static final int NONE = -1",
        "public BurialGround()",
        "---- the ground",
        "public int lay(int plot, int kind) throws " + INDEX + ", " + ARGUMENT + ", " + STATE,
        "public int pass(int years) throws " + ARGUMENT + ", " + STATE,
        "public int setParish(int family, boolean parish) throws " + INDEX,
        "---- burials, reservations, vaults",
        "public int bury(int family, int plot, int depth) throws " + INDEX + ", " + ARGUMENT + ", " + STATE,
        "public int reserve(int family, int plot, int years) throws " + INDEX + ", " + ARGUMENT + ", " + STATE,
        "public int buildVault(int family, int plot) throws " + INDEX + ", " + STATE,
        "public int clear(int plot) throws " + INDEX + ", " + STATE,
        "---- texts",
        "public int append(int code) throws " + ARGUMENT + ", " + STATE,
        "public int clearBuffer()",
        "public int firstError()",
        "public int load() throws " + ARGUMENT,
        "public int undo() throws " + STATE,
        "---- what there is",
        "public int plot(int plot, int what) throws " + INDEX + ", " + ARGUMENT,
        "public int burial(int plot, int depth, int what) throws " + INDEX + ", " + ARGUMENT,
        "public int family(int family, int what) throws " + INDEX + ", " + ARGUMENT,
        "public int count(int what) throws " + ARGUMENT,
        "---- what would be; nothing is changed",
        "public int why(int family, int plot, int depth) throws " + INDEX + ", " + ARGUMENT,
        "public int fee(int family, int plot, int depth) throws " + INDEX + ", " + ARGUMENT,
        "public int deepest(int family, int plot) throws " + INDEX,
        "public int bestPlot(int family) throws " + INDEX,
        "public int yearFor(int family, int plot, int depth) throws " + INDEX + ", " + ARGUMENT,
        "public int clearYear(int plot) throws " + INDEX,
        "public int cutsOff(int plot) throws " + INDEX,
        "public double meanFee()",
        "public long digest()",
    };

    private FaceTest() {
    }

    private static void sourceSaysIt() throws IOException {
        String source = new String(Files.readAllBytes(Paths.get(SOURCE)), "UTF-8");
        Matcher said = Pattern.compile("(?m)^ *(public [^;{]*)[;{]|^    // (---- .*)$").matcher(source);
        List<String> found = new ArrayList<>();
        while (said.find()) {
            String line = said.group(1) == null ? said.group(2) : said.group(1);
            found.add(line.replaceAll("\\s+", " ").trim());
        }
        for (int i = 0; i < Math.max(found.size(), FACE.length); i++) {
            String due = i < FACE.length ? FACE[i] : "nothing more";
            Checks.same("line " + i + " of the face", i < found.size() ? found.get(i) : "nothing more", due);
        }
    }

    /** "public int lay(int plot, int kind) throws A, B" becomes "int lay(int int) A B": what reflection tells. */
    private static List<String> methodsDue() {
        List<String> due = new ArrayList<>();
        for (String line : FACE) {
            if (line.matches("public \\w+ \\w+\\(.*")) {
                due.add(line.substring("public ".length()).replaceAll("(int|boolean) \\w+([,)])", "$1$2")
                    .replace(" throws", "").replace(",", ""));
            }
        }
        return due;
    }

    private static String names(Class<?>[] types, String before) {
        StringBuilder text = new StringBuilder();
        for (Class<?> type : types) {
            text.append(text.length() == 0 ? before : " ").append(type.getSimpleName());
        }
        return text.toString();
    }

    private static void seen(String what, Member member, boolean isFace) {
        int due = isFace ? Modifier.PUBLIC : Modifier.PRIVATE;
        int mask = Modifier.PUBLIC | Modifier.PRIVATE | Modifier.PROTECTED;
        Checks.due("access of " + what, member.getModifiers() & mask, due);
    }

    private static void methods() {
        List<String> missing = methodsDue();
        Checks.due("methods of the face", missing.size(), 25);
        List<String> publicNames = new ArrayList<>();
        for (String line : missing) {
            publicNames.add(line.substring(line.indexOf(' ') + 1, line.indexOf('(')));
        }
        for (Method method : BurialGround.class.getDeclaredMethods()) {
            String line = method.getReturnType().getSimpleName() + " " + method.getName() + "("
                + names(method.getParameterTypes(), "") + ")" + names(method.getExceptionTypes(), " ");
            boolean isFace = missing.remove(line);
            seen(line, method, isFace);
            Checks.due("a name of the face: " + line, publicNames.contains(method.getName()) ? 1 : 0, isFace ? 1 : 0);
        }
        Checks.due("missing: " + missing, missing.size(), 0);
    }

    private static void constant() throws NoSuchFieldException, IllegalAccessException {
        Field none = BurialGround.class.getDeclaredField("NONE");
        Checks.due("NONE is public static final", none.getModifiers(),
            Modifier.PUBLIC | Modifier.STATIC | Modifier.FINAL);
        Checks.same("NONE is an int", none.getType().getName(), "int");
        Checks.due("NONE", none.getInt(null), -1);
    }

    public static void main(String[] args) throws IOException, NoSuchFieldException, IllegalAccessException {
        sourceSaysIt();
        methods();
        constant();
        Class<?> type = BurialGround.class;
        Checks.due("public and final", type.getModifiers(), Modifier.PUBLIC | Modifier.FINAL);
        for (Field field : type.getDeclaredFields()) {
            seen(field.getName(), field, field.getName().equals("NONE"));
        }
        for (Constructor<?> constructor : type.getDeclaredConstructors()) {
            seen("constructor", constructor, constructor.getParameterCount() == 0);
        }
        Checks.end();
    }
}
