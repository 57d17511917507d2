import java.io.IOException;
import java.lang.reflect.Method;
import java.lang.reflect.Modifier;
import java.nio.charset.StandardCharsets;
import java.nio.file.Files;
import java.nio.file.Path;
import java.util.ArrayList;
import java.util.Comparator;
import java.util.List;
import java.util.Set;
import java.util.TreeSet;
import java.util.regex.Matcher;
import java.util.regex.Pattern;
import java.util.stream.Collectors;
import java.util.stream.Stream;

/** What README.md says of using the class and of running its tests, done as it is written there. */
final class ReadmeTests {
    private static final Pattern NAMED_TEST = Pattern.compile("(?m)^test=(\\w+)$");

    private final Path source;
    private final Path document;
    private final String readme;
    private final String[] args;
    private final List<Path> copies = new ArrayList<>();

    private ReadmeTests(String[] args) throws IOException {
        this.args = args;
        source = Path.of(args[0]).toAbsolutePath();
        document = Path.of(args[1]).toAbsolutePath();
        readme = read(Path.of(args[2]));
    }

    static void run(String[] args) throws IOException {
        ReadmeTests tests = new ReadmeTests(args);
        Check.test("README.md: its program prints what it says", tests::programPrints);
        Check.test("README.md: its calls are the class's", tests::callsAreTheClasses);
        Check.test("README.md: a test under ../shared/tests runs by itself", tests::sharedTestRuns);
        Check.test("README.md: the project's own tests run by themselves", tests::ownTestsRun);
        Check.test("README.md: the script that it names runs", ReadmeTests::scriptRuns);
        tests.removeCopies();
    }

    private void programPrints() throws Exception {
        String program = blocks("java").get(0);
        Matcher named = Pattern.compile("public class (\\w+) ").matcher(program);
        Check.same(named.find(), true);
        Path checkout = checkout();
        Files.writeString(checkout.resolve(named.group(1) + ".java"), program);
        Check.same(answerOf(checkout, blockWith("build " + named.group(1))), blocks("text").get(0) + "exit 0");
    }

    private void callsAreTheClasses() {
        Set<String> told = new TreeSet<>();
        Matcher call = Pattern.compile("`(\\w+)\\(([^)`]*)\\)`").matcher(readme);
        while (call.find()) {
            told.add(call.group(1) + " " + (call.group(2).isEmpty() ? 0 : call.group(2).split(",").length));
        }
        Set<String> due = new TreeSet<>();
        for (Method method : Gatherhouse.class.getDeclaredMethods()) {
            if (Modifier.isPublic(method.getModifiers())) {
                due.add(method.getName() + " " + method.getParameterCount());
            }
        }
        Check.same(told, due);
    }

    /** The test that is named may be gone one day; any other one must run in the same way. */
    private void sharedTestRuns() throws Exception {
        String block = blockWith("../shared/tests");
        Matcher named = NAMED_TEST.matcher(block);
        Check.same(named.find(), true);
        Path checkout = checkout();
        List<Path> all = javaFilesOf(checkout.resolve("../shared/tests"));
        List<String> names = new ArrayList<>();
        for (Path one : all) {
            names.add(one.getFileName().toString().replace(".java", ""));
        }
        Check.same(names.isEmpty(), false);
        String name = names.contains(named.group(1)) ? named.group(1) : names.get(0);
        String answer = answerOf(checkout, NAMED_TEST.matcher(block).replaceFirst("test=" + name));
        Check.same(answer.endsWith("exit 0"), true);
        Check.same(Files.exists(checkout.resolve("build").resolve(name + ".class")), true);
    }

    /** They are compiled as told; they run already, so that it is compared how they were begun. */
    private void ownTestsRun() throws Exception {
        String[] rows = blockWith("AllTests").split("\n");
        Check.same(rows.length, 2);
        Check.same(rows[1], "java -cp build AllTests " + String.join(" ", args));
        Path checkout = checkout();
        Check.same(answerOf(checkout, rows[0]).endsWith("exit 0"), true);
        Check.same(Files.exists(checkout.resolve("build/AllTests.class")), true);
    }

    private static void scriptRuns() {
        Check.same(Files.isExecutable(Path.of(".ci/run")), true);
    }

    private List<String> blocks(String kind) {
        List<String> found = new ArrayList<>();
        Matcher block = Pattern.compile("(?s)```" + kind + "\n(.*?)```").matcher(readme);
        while (block.find()) {
            found.add(block.group(1));
        }
        return found;
    }

    private String blockWith(String words) {
        for (String block : blocks("sh")) {
            if (block.contains(words)) {
                return block;
            }
        }
        throw new AssertionError("README.md has no commands with " + words);
    }

    /** A copy of what the commands need, so that nothing is written into the checkout itself. */
    private Path checkout() throws IOException {
        Path top = Files.createTempDirectory("readme");
        Path checkout = top.resolve("checkout");
        copies.add(top);
        copy(List.of(source), checkout.resolve("src/main/java"));
        copy(javaFilesOf(Path.of("src/test/java")), checkout.resolve("src/test/java"));
        copy(List.of(document), top.resolve("shared"));
        copy(javaFilesOf(document.resolveSibling("tests")), top.resolve("shared/tests"));
        return checkout;
    }

    private static void copy(List<Path> files, Path into) throws IOException {
        Files.createDirectories(into);
        for (Path file : files) {
            Files.write(into.resolve(file.getFileName()), Files.readAllBytes(file));
        }
    }

    private static List<Path> javaFilesOf(Path directory) throws IOException {
        try (Stream<Path> all = Files.list(directory)) {
            return all.filter(file -> file.toString().endsWith(".java")).sorted().collect(Collectors.toList());
        }
    }

    private static String answerOf(Path directory, String commands) throws Exception {
        Process begun = new ProcessBuilder("bash", "-e", "-c", commands)
                .directory(directory.toFile())
                .redirectErrorStream(true)
                .start();
        String printed = new String(begun.getInputStream().readAllBytes(), StandardCharsets.UTF_8);
        return printed + "exit " + begun.waitFor();
    }

    private void removeCopies() throws IOException {
        for (Path top : copies) {
            try (Stream<Path> all = Files.walk(top)) {
                for (Path path : all.sorted(Comparator.reverseOrder()).collect(Collectors.toList())) {
                    Files.delete(path);
                }
            }
        }
    }

    private static String read(Path file) throws IOException {
        return new String(Files.readAllBytes(file), StandardCharsets.UTF_8);
    }
}
