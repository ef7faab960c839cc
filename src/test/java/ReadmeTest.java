import java.io.ByteArrayOutputStream;
import java.io.IOException;
import java.io.PrintStream;
import java.net.URL;
import java.net.URLClassLoader;
import java.nio.file.Files;
import java.nio.file.Path;
import java.util.ArrayList;
import java.util.List;
import java.util.stream.Stream;
import javax.tools.ToolProvider;

/** What README.md says is so: its example prints what stands beside it, and its table names every test. */
public final class ReadmeTest {
    private static final Path README = Path.of("README.md");
    private static final Path TESTS = Path.of("src", "test", "java");

    private ReadmeTest() {
    }

    public static void main(String[] args) throws Exception {
        List<String> lines = Files.readAllLines(README);
        examplePrintsWhatItSays(example(lines));
        everyTestIsNamed(lines);
        everyCallIsNamed(String.join("\n", lines));
        Check.end("ReadmeTest");
    }

    private static List<String> example(List<String> lines) {
        int from = lines.indexOf("```java") + 1;
        return lines.subList(from, from + lines.subList(from, lines.size()).indexOf("```"));
    }

    private static void examplePrintsWhatItSays(List<String> example) throws Exception {
        List<String> due = new ArrayList<>();
        for (String line : example) {
            if (line.contains("System.out.println")) {
                String beside = line.substring(line.indexOf("// ") + 3);
                due.add(beside.substring(0, beside.indexOf(':')));
            }
        }
        Check.holds("the example prints something", !due.isEmpty());
        String printed = run(example);
        Check.holds("the example prints " + due + ", not " + printed, printed.lines().toList().equals(due));
    }

    private static String run(List<String> example) throws Exception {
        Path out = Files.createTempDirectory("example");
        Path source = Files.write(out.resolve("Example.java"), example);
        int wrong = ToolProvider.getSystemJavaCompiler().run(null, null, null, "-classpath",
                System.getProperty("java.class.path"), "-d", out.toString(), source.toString());
        Check.due("compiling the example", wrong, 0);
        String printed = wrong == 0 ? printedBy(out) : "";
        deleteAll(out);
        return printed;
    }

    private static String printedBy(Path classes) throws Exception {
        PrintStream before = System.out;
        ByteArrayOutputStream printed = new ByteArrayOutputStream();
        try (URLClassLoader loader = new URLClassLoader(new URL[] {classes.toUri().toURL()})) {
            System.setOut(new PrintStream(printed, true));
            loader.loadClass("Example").getMethod("main", String[].class).invoke(null, (Object) new String[0]);
        } finally {
            System.setOut(before);
        }
        return printed.toString();
    }

    private static void deleteAll(Path directory) throws IOException {
        try (Stream<Path> files = Files.list(directory)) {
            for (Path file : files.toList()) {
                Files.delete(file);
            }
        }
        Files.delete(directory);
    }

    private static void everyTestIsNamed(List<String> lines) throws IOException {
        List<String> named = lines.stream().filter(line -> line.matches("\\| [A-Z][A-Za-z]*Test \\| .*"))
                .map(line -> line.split(" ")[1]).sorted().toList();
        try (Stream<Path> files = Files.list(TESTS)) {
            List<String> there = files.map(file -> file.getFileName().toString())
                    .filter(name -> name.endsWith("Test.java"))
                    .map(name -> name.replace(".java", "")).sorted().toList();
            Check.holds("the tests are " + there + ", the table names " + named, there.equals(named));
        }
    }

    private static void everyCallIsNamed(String readme) {
        Stream.of(ClockNet.class.getMethods()).filter(m -> m.getDeclaringClass() == ClockNet.class)
                .forEach(m -> Check.holds(m.getName() + " is told of", readme.contains("`" + m.getName() + "(")));
    }
}
