import java.io.IOException;
import java.io.UncheckedIOException;
import java.lang.reflect.Method;
import java.nio.charset.StandardCharsets;
import java.nio.file.Files;
import java.nio.file.Path;
import java.util.ArrayList;
import java.util.Comparator;
import java.util.List;
import java.util.regex.Matcher;
import java.util.regex.Pattern;
import java.util.stream.Collectors;
import java.util.stream.Stream;

/** What README.md says, done as it is written there. */
final class ReadmeTest {
    private static final Path PROGRAM = Path.of("src/main/java/PrintKeeper.java");
    private static final Path TESTS = Path.of("src/test/java");
    private static final String README = text(Path.of("README.md"));

    private ReadmeTest() {
    }

    static void all() {
        Check.test("readme: the example prints what stands behind its lines", ReadmeTest::example);
        Check.test("readme: the example makes each call of the face", ReadmeTest::calls);
        Check.test("readme: the command for the tests", ReadmeTest::command);
        Check.test("readme: each class of tests is run and named", ReadmeTest::tests);
        Check.test("readme: the story is one of the tests", ReadmeTest::story);
    }

    private static void example() {
        String example = block("java", "class Example");
        String due = Stream.of(example.split("\n")).filter(line -> line.contains("System.out.println"))
                .map(line -> line.replaceAll(".*// |:.*", "")).collect(Collectors.joining("\n"));
        Check.holds("answers are told", false, due::isBlank);
        Check.same("the example", due, printed(example, block("sh", "Example")).trim());
    }

    private static String printed(String example, String commands) {
        try {
            Path folder = Files.createTempDirectory("readme");
            try {
                Path program = folder.resolve(PROGRAM);
                Files.createDirectories(program.getParent());
                Files.copy(PROGRAM, program);
                Files.writeString(folder.resolve("Example.java"), example);
                return printedIn(folder, commands);
            } finally {
                remove(folder);
            }
        } catch (IOException e) {
            throw new UncheckedIOException(e);
        }
    }

    private static String printedIn(Path folder, String commands) throws IOException {
        Process shell = new ProcessBuilder("sh", "-e", "-c", commands).directory(folder.toFile())
                .redirectError(ProcessBuilder.Redirect.INHERIT).start();
        return new String(shell.getInputStream().readAllBytes(), StandardCharsets.UTF_8);
    }

    private static void remove(Path folder) throws IOException {
        List<Path> inside;
        try (Stream<Path> all = Files.walk(folder)) {
            inside = all.sorted(Comparator.reverseOrder()).toList();
        }
        for (Path path : inside) {
            Files.delete(path);
        }
    }

    private static void calls() {
        String example = block("java", "class Example");
        for (Method method : PrintKeeper.class.getMethods()) {
            if (method.getDeclaringClass() == PrintKeeper.class) {
                String call = "keeper." + method.getName() + "(";
                Check.holds(call, true, () -> example.contains(call));
            }
        }
    }

    private static void command() {
        String command = block("sh", ".ci/").trim();
        Check.same("the command", ".ci/run", command);
        Check.holds("it can be run", true, () -> Files.isExecutable(Path.of(command)));
    }

    private static void tests() {
        String run = text(TESTS.resolve("AllTests.java"));
        for (String name : namesOfTests()) {
            Check.holds(name + " is run", true, () -> run.contains("        " + name + ".all();\n"));
            Check.holds(name + " is named", true, () -> README.contains("`" + name + "`"));
        }
    }

    private static List<String> namesOfTests() {
        List<String> names = new ArrayList<>();
        try (Stream<Path> files = Files.list(TESTS)) {
            for (Path file : files.sorted().toList()) {
                if (text(file).contains("\n    static void all() {\n")) {
                    names.add(file.getFileName().toString().replace(".java", ""));
                }
            }
        } catch (IOException e) {
            throw new UncheckedIOException(e);
        }
        Check.holds("this test is among them", true, () -> names.contains("ReadmeTest"));
        return names;
    }

    private static void story() {
        String story = block("java", "Story.test").replaceAll("\\s+", " ").trim();
        Check.holds("it stands in RunBoundaries", true,
                () -> text(TESTS.resolve("RunBoundaries.java")).replaceAll("\\s+", " ").contains(story));
    }

    /** The fenced block of this language that has these words. */
    private static String block(String language, String words) {
        Matcher blocks = Pattern.compile("(?ms)^```" + language + "\n(.*?)^```$").matcher(README);
        while (blocks.find()) {
            if (blocks.group(1).contains(words)) {
                return blocks.group(1);
            }
        }
        throw new IllegalStateException("no block with " + words);
    }

    private static String text(Path file) {
        try {
            return Files.readString(file);
        } catch (IOException e) {
            throw new UncheckedIOException(e);
        }
    }
}
