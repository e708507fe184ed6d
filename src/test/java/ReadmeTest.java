import java.io.File;
import java.io.IOException;
import java.nio.file.Files;
import java.nio.file.Path;
import java.nio.file.Paths;
import java.util.ArrayList;
import java.util.List;
import java.util.regex.Matcher;
import java.util.regex.Pattern;

/** What README.md says is so: its example's answers, its commands, and the tests that it names. */
public final class ReadmeTest {
    private static final Path README = Paths.get("README.md");
    private static final Path SOURCE = Paths.get("src/main/java/BurialGround.java");
    private static final File TESTS = new File("src/test/java");
    private static final Pattern PRINTED = Pattern.compile("System\\.out\\.println\\(ground\\..*\\); +// (-?\\d+): ");

    private ReadmeTest() {
    }

    private static String read(Path file) throws IOException {
        return new String(Files.readAllBytes(file), "UTF-8");
    }

    private static void holds(String what, boolean so) {
        Checks.due(what, so ? 1 : 0, 1);
    }

    private static String block(String text, String language) {
        Matcher matcher = Pattern.compile("(?s)\n```" + language + "\n(.*?)\n```\n").matcher(text);
        return matcher.find() ? matcher.group(1) : "";
    }

    /** The number behind "//" in each line that prints an answer. */
    private static String answersIn(String example) {
        List<String> answers = new ArrayList<>();
        for (String line : example.split("\n")) {
            if (line.contains("println")) {
                Matcher matcher = PRINTED.matcher(line);
                answers.add(matcher.find() ? matcher.group(1) : "no answer in:" + line);
            }
        }
        return String.join("\n", answers);
    }

    /** The page's commands, in a folder that holds what the page says: the example and the class. */
    private static String printedBy(String example, String commands) throws IOException, InterruptedException {
        Path folder = Files.createTempDirectory("readme");
        Files.createDirectories(folder.resolve(SOURCE).getParent());
        Files.copy(SOURCE, folder.resolve(SOURCE));
        Files.write(folder.resolve("Example.java"), example.getBytes("UTF-8"));
        Path printed = folder.resolve("printed");
        Process process = new ProcessBuilder("sh", "-e", "-c", commands).directory(folder.toFile())
            .redirectErrorStream(true).redirectOutput(printed.toFile()).start();
        Checks.due("README.md, exit code of its commands", process.waitFor(), 0);
        String text = read(printed).trim();
        delete(folder.toFile());
        return text;
    }

    private static void delete(File file) {
        File[] inside = file.listFiles();
        for (File each : inside == null ? new File[0] : inside) {
            delete(each);
        }
        file.delete();
    }

    private static void example(String page) throws IOException, InterruptedException {
        String example = block(page, "java");
        String answers = answersIn(example);
        holds("README.md has an example with answers", answers.split("\n").length >= 10);
        Checks.same("README.md, its example", printedBy(example, block(page, "sh")), answers);
    }

    private static void everyCall(String page) throws IOException {
        Matcher matcher = Pattern.compile("(?m)^    public \\w+ (\\w+)\\(([^)]*)\\)").matcher(read(SOURCE));
        while (matcher.find()) {
            String call = matcher.group(1) + "(" + matcher.group(2).replaceAll("\\w+ (\\w+)", "$1") + ")";
            holds("README.md names `" + call + "`", page.contains("`" + call + "`"));
        }
    }

    /** .ci/run finds a test by its name; so whatever has a main method must bear such a name. */
    private static void everyTest(String page) throws IOException {
        String script = read(Paths.get(".ci/run"));
        holds("README.md names .ci/run", page.contains("\n    .ci/run\n"));
        holds(".ci/run can be executed", Files.isExecutable(Paths.get(".ci/run")));
        holds(".ci/run takes the tests of the project", script.contains("for test in src/test/java/*Test.java; do"));
        holds(".ci/run takes the shared tests", script.contains("for test in ../shared/tests/*.java; do"));
        int tests = 0;
        for (File file : TESTS.listFiles()) {
            String name = file.getName();
            boolean isTest = name.endsWith(".java") && read(file.toPath()).contains("\n    public static void main(");
            holds(name + " is a Java file", file.isFile() && name.endsWith(".java"));
            holds(name + ": a main method and the name of a test go together", isTest == name.endsWith("Test.java"));
            holds("README.md names " + name, Pattern.compile("[`/]" + Pattern.quote(name) + "`").matcher(page).find());
            tests += isTest ? 1 : 0;
        }
        holds("tests of the project", tests > 0);
        Matcher named = Pattern.compile("[`/](\\w+\\.java)`").matcher(page);
        while (named.find()) {
            String name = named.group(1);
            holds(name + " of README.md is there", new File(TESTS, name).isFile() || name.equals("Example.java")
                || SOURCE.endsWith(name));
        }
    }

    public static void main(String[] args) throws IOException, InterruptedException {
        String page = read(README);
        example(page);
        everyCall(page);
        everyTest(page);
        Checks.end();
    }
}
