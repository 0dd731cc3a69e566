import java.io.IOException;
import java.lang.reflect.Method;
import java.lang.reflect.Modifier;
import java.nio.charset.StandardCharsets;
import java.nio.file.Files;
import java.nio.file.Path;
import java.util.Comparator;
import java.util.List;
import java.util.regex.Matcher;
import java.util.regex.Pattern;
import java.util.stream.Stream;

/** README.md: its example runs as it says there, and the calls and tests that it names are those there are. */
public final class ReadmeTest {
    private static final Path CLASS_FILE = Path.of("src/main/java/ExactFloats.java");
    private static final Path TESTS = Path.of("src/test/java");

    private final Check check = new Check();
    private final String readme;

    private ReadmeTest() throws IOException {
        readme = Files.readString(Path.of("README.md"));
    }

    /** The one fenced block of a kind; empty if there are none or several. */
    private String block(String kind) {
        Matcher m = Pattern.compile("(?ms)^```" + kind + "\\n(.*?)^```$").matcher(readme);
        String found = m.find() ? m.group(1) : "";
        return m.find() ? "" : found;
    }

    private void exampleRunsAsWritten() throws IOException, InterruptedException {
        Path place = Files.createTempDirectory("readme");
        try {
            Path copy = place.resolve(CLASS_FILE);
            Files.createDirectories(copy.getParent());
            Files.copy(CLASS_FILE, copy);
            Files.writeString(place.resolve("Example.java"), block("java"));
            Process made = new ProcessBuilder("sh", "-e", "-c", block("sh"))
                    .directory(place.toFile()).redirectError(ProcessBuilder.Redirect.INHERIT).start();
            String printed = new String(made.getInputStream().readAllBytes(), StandardCharsets.UTF_8);
            check.due("the example's exit code", made.waitFor(), 0);
            check.due("the example as README.md has it printed\n" + printed + "and that",
                    printed.equals(block("text")), true);
            check.due("lines that it printed", printed.lines().count() > 0, true);
        } finally {
            remove(place);
        }
    }

    private static void remove(Path place) throws IOException {
        List<Path> all;
        try (Stream<Path> walk = Files.walk(place)) {
            all = walk.sorted(Comparator.reverseOrder()).toList();
        }
        for (Path p : all) {
            Files.delete(p);
        }
    }

    private void everyCallIsTold() {
        for (Method m : ExactFloats.class.getDeclaredMethods()) {
            if (Modifier.isPublic(m.getModifiers())) {
                String row = "\\| `" + m.getName() + "\\(" + "\\w+".repeat(Math.min(1, m.getParameterCount()))
                        + ", \\w+".repeat(Math.max(0, m.getParameterCount() - 1)) + "\\)` \\|";
                check.due("a row for " + m, Pattern.compile(row).matcher(readme).find(), true);
            }
        }
    }

    /** .ci/run takes what is named *Test.java in one directory: no test may stand elsewhere. */
    private void everyTestIsRun() throws IOException {
        check.due("README.md has the command", readme.contains("\n    .ci/run\n"), true);
        check.due(".ci/run is executable", Files.isExecutable(Path.of(".ci/run")), true);
        List<Path> files;
        try (Stream<Path> walk = Files.walk(Path.of("src/test"))) {
            files = walk.filter(p -> p.toString().endsWith(".java")).toList();
        }
        for (Path p : files) {
            boolean isTest = Files.readString(p).contains("public static void main(");
            boolean isTaken = p.getParent().equals(TESTS) && p.toString().endsWith("Test.java");
            check.due(p + " is a test that is run", isTaken, isTest);
        }
    }

    private void namedTestsAreThere() throws IOException {
        Matcher named = Pattern.compile("`(\\w+Test|Model)`").matcher(readme);
        while (named.find()) {
            check.due(named.group() + " is there", Files.exists(TESTS.resolve(named.group(1) + ".java")), true);
        }
        try (Stream<Path> files = Files.list(TESTS)) {
            for (Path p : files.filter(f -> f.toString().endsWith("SentencesTest.java")).toList()) {
                String name = p.getFileName().toString().replace(".java", "");
                check.due(name + " is named in README.md", readme.contains("| `" + name + "` |"), true);
            }
        }
    }

    public static void main(String[] args) throws IOException, InterruptedException {
        ReadmeTest test = new ReadmeTest();
        test.exampleRunsAsWritten();
        test.everyCallIsTold();
        test.everyTestIsRun();
        test.namedTestsAreThere();
        test.check.end();
    }
}
