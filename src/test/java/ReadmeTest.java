import java.io.IOException;
import java.io.UncheckedIOException;
import java.lang.reflect.Method;
import java.lang.reflect.Modifier;
import java.nio.file.Files;
import java.nio.file.Path;
import java.util.ArrayList;
import java.util.Comparator;
import java.util.List;
import java.util.regex.Matcher;
import java.util.regex.Pattern;

/** What README.md says is so: its example, its commands, and the calls, tests and files that it names. */
public final class ReadmeTest {
    private final String page;
    private final Path folder;

    private ReadmeTest(String page, Path folder) {
        this.page = page;
        this.folder = folder;
    }

    public static void main(String[] args) throws Exception {
        // A copy, so that what the page's commands make is not left in the project.
        Path folder = Files.createTempDirectory(Files.createDirectories(Path.of(".ci/out")), "readme");
        try {
            copy(Path.of("src/main/java"), folder.resolve("src/main/java"));
            copy(Path.of("src/test/java"), folder.resolve("src/test/java"));
            ReadmeTest test = new ReadmeTest(Files.readString(Path.of("README.md")), folder);
            test.checkCommands();
            test.checkCalls();
            test.checkFiles();
            test.checkTestOfSentence();
        } finally {
            remove(folder);
        }
        Checks.end("ReadmeTest");
    }

    private static void copy(Path from, Path to) throws IOException {
        Files.createDirectories(to);
        try (var files = Files.list(from)) {
            for (Path file : files.toList()) {
                Files.copy(file, to.resolve(file.getFileName()));
            }
        }
    }

    private static void remove(Path folder) throws IOException {
        try (var all = Files.walk(folder)) {
            for (Path one : all.sorted(Comparator.reverseOrder()).toList()) {
                Files.delete(one);
            }
        }
    }

    /** The lines of the page that are set in by four, but for those of the example. */
    private List<String> setIn() {
        List<String> lines = new ArrayList<>();
        for (String line : page.replaceAll("(?s)```.*?```", "").split("\n")) {
            if (line.startsWith("    ")) {
                lines.add(line.substring(4));
            }
        }
        return lines;
    }

    private String example() {
        Matcher block = Pattern.compile("(?s)```java\n(.*?)```").matcher(page);
        Checks.same("the page has an example", block.find(), true);
        return block.group(1);
    }

    /** Each answer that the example prints, as the page tells it behind the call; what it means stands farther off. */
    private static List<String> dueAnswers(String example) {
        List<String> due = new ArrayList<>();
        for (String line : example.split("\n")) {
            if (line.contains("println(")) {
                String[] parts = line.split("// ");
                due.add(parts.length < 2 ? "not told" : parts[1].split(" {2,}")[0]);
            }
        }
        return due;
    }

    private void checkCommands() throws Exception {
        String example = example();
        Files.writeString(folder.resolve("Example.java"), example);
        int exampleRuns = 0;
        int testRuns = 0;
        for (String command : setIn()) {
            if (!command.startsWith("java")) {
                continue;
            }
            List<String> printed = run(command);
            if (command.endsWith(" Example")) {
                exampleRuns++;
                Checks.same("what the example prints", printed, dueAnswers(example));
            } else if (command.endsWith("Test")) {
                testRuns++;
                Checks.same(command + " tells how much was checked", printed.toString().contains(" checks, "), true);
            }
        }
        Checks.same("the page runs its example", exampleRuns, 1);
        Checks.same("the page runs a test", testRuns, 1);
    }

    private List<String> run(String command) throws Exception {
        Process process = new ProcessBuilder("sh", "-c", command).directory(folder.toFile())
                .redirectErrorStream(true).start();
        process.getOutputStream().close();
        List<String> printed = new String(process.getInputStream().readAllBytes()).lines().toList();
        Checks.same(command + " ends with, behind " + printed, process.waitFor(), 0);
        return printed;
    }

    private void checkCalls() {
        for (Method method : Strandbook.class.getDeclaredMethods()) {
            if (Modifier.isPublic(method.getModifiers())) {
                Checks.same("the page names the call " + method.getName(),
                        page.contains("`" + method.getName() + "`"), true);
            }
        }
    }

    private void checkFiles() throws IOException {
        Matcher named = Pattern.compile("`((?:src|\\.ci|\\.\\./shared)[\\w./]*)`").matcher(page);
        while (named.find()) {
            // "src/test/java/...Test.java" stands for any of them.
            boolean isAny = named.group(1).contains("...");
            Checks.same("there is a " + named.group(1), isAny || Files.exists(Path.of(named.group(1))), true);
        }
        try (var files = Files.list(Path.of("src/test/java"))) {
            files.map(file -> "`src/test/java/" + file.getFileName() + "`").filter(file -> file.endsWith("Test.java`"))
                    .forEach(file -> Checks.same("the page names " + file, page.contains(file), true));
        }
        Checks.same("the page tells how to run all tests", setIn().contains(".ci/run"), true);
        Checks.same(".ci/run can be called", Files.isExecutable(Path.of(".ci/run")), true);
    }

    /** The test of a sentence that the page shows is one of the project's own, which pass. */
    private void checkTestOfSentence() throws IOException {
        List<String> lines = setIn();
        int title = lines.indexOf("== Promise 2: make");
        int begin = lines.indexOf("> `length`: 0 to 256");
        Checks.same("the page shows the test of a sentence", title >= 0 && begin > title, true);
        String shown = String.join("\n", lines.subList(begin, lines.size()));
        boolean isThere;
        try (var files = Files.list(Path.of("src/test/boundaries"))) {
            isThere = files.map(ReadmeTest::textOf)
                    .anyMatch(text -> text.contains("\n" + lines.get(title) + "\n") && text.contains("\n" + shown + "\n"));
        }
        Checks.same("the test that the page shows is one of src/test/boundaries", isThere, true);
    }

    private static String textOf(Path file) {
        try {
            return Files.readString(file);
        } catch (IOException e) {
            throw new UncheckedIOException(e);
        }
    }
}
