import java.io.IOException;
import java.net.URL;
import java.net.URLClassLoader;
import java.nio.file.Files;
import java.nio.file.Path;
import java.util.List;
import java.util.Set;
import java.util.TreeSet;
import java.util.regex.Matcher;
import java.util.regex.Pattern;
import java.util.stream.Collectors;
import java.util.stream.Stream;
import javax.tools.ToolProvider;

/** README.md: the calls that it shows answer what it says there; it shows each call, and names each test. */
public final class ReadmeTest {
    private static final Path README = Path.of("README.md");
    private static final Path TESTS = Path.of("src/test/java");
    /** A call by itself, then what it answers. */
    private static final Pattern SHOWN = Pattern.compile("x\\.(\\w+)\\((.*)\\); +// (-?\\d+|NONE|BAD|STATE|FULL): \\S.*");
    private static final Check check = new Check();

    public static void main(String[] args) throws IOException, ReflectiveOperationException {
        String page = Files.readString(README);
        List<String> program = programOf(page);
        runs(program);
        showsEachCall(program);
        namesEachTest(page);
        check.due("README.md tells how to run the tests", page.contains("    .ci/run\n") ? 1 : 0, 1);
        check.due(".ci/run can be run", Files.isExecutable(Path.of(".ci/run")) ? 1 : 0, 1);
        check.end("ReadmeTest");
    }

    /** The program that the page shows calls this for each answer. */
    public static void due(String call, int got, int want) {
        check.due("README.md shows " + call + ", which", got, want);
    }

    private static List<String> programOf(String page) {
        Matcher block = Pattern.compile("(?s)```java\n(.*?)```").matcher(page);
        StringBuilder lines = new StringBuilder();
        while (block.find()) {
            lines.append(block.group(1));
        }
        return lines.toString().lines().toList();
    }

    /** Compiled as it is shown, but that each answer is compared. */
    private static void runs(List<String> program) throws IOException, ReflectiveOperationException {
        StringBuilder text = new StringBuilder("public final class Shown { public static void run() {\n");
        for (String line : program) {
            text.append(compared(line)).append('\n');
        }
        text.append("} }\n");
        Path made = Files.createTempDirectory("shown");
        Path source = Files.writeString(made.resolve("Shown.java"), text);
        int failed = ToolProvider.getSystemJavaCompiler().run(null, null, null, "--release", "17", "-cp",
            System.getProperty("java.class.path"), "-d", made.toString(), source.toString());
        check.due("what README.md shows compiles", failed, 0);
        if (failed == 0) {
            try (URLClassLoader loader = new URLClassLoader(new URL[] {made.toUri().toURL()})) {
                loader.loadClass("Shown").getMethod("run").invoke(null);
            }
        }
        for (String name : List.of("Shown.class", "Shown.java", "")) {
            Files.deleteIfExists(made.resolve(name));
        }
    }

    private static String compared(String line) {
        Matcher shown = SHOWN.matcher(line);
        boolean isCall = line.startsWith("x.");
        check.due("a call by itself has an answer: " + line, !isCall || shown.matches() ? 1 : 0, 1);
        if (!isCall || !shown.matches()) {
            return line;
        }
        String call = "x." + shown.group(1) + "(" + shown.group(2) + ")";
        String answer = shown.group(3);
        boolean isName = Character.isLetter(answer.charAt(0));
        return "ReadmeTest.due(\"" + call + "\", " + call + ", " + (isName ? "TramFaith." : "") + answer + ");";
    }

    private static void showsEachCall(List<String> program) {
        Set<String> missing = new TreeSet<>(Twin.face().keySet());
        for (String line : program) {
            Matcher shown = SHOWN.matcher(line);
            if (shown.matches()) {
                missing.remove(shown.group(1));
            }
        }
        check.due("calls that README.md does not show: " + missing, missing.size(), 0);
    }

    /** The classes of the promises are named by the first and the last one of them. */
    private static void namesEachTest(String page) throws IOException {
        Set<String> tests;
        try (Stream<Path> files = Files.list(TESTS)) {
            tests = files.map(file -> file.getFileName().toString()).filter(name -> name.endsWith("Test.java"))
                .map(name -> name.replace(".java", "")).collect(Collectors.toCollection(TreeSet::new));
        }
        for (String test : tests) {
            boolean isNamed = test.startsWith("Promise") || page.contains("| `" + test + "` |");
            check.due("README.md names " + test, isNamed ? 1 : 0, 1);
        }
        Matcher named = Pattern.compile("`(\\w+Test)`").matcher(page);
        while (named.find()) {
            check.due(named.group(1) + ", which README.md names, is there", tests.contains(named.group(1)) ? 1 : 0, 1);
        }
    }
}
