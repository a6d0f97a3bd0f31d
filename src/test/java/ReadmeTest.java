import java.io.ByteArrayOutputStream;
import java.io.IOException;
import java.io.PrintStream;
import java.net.URL;
import java.net.URLClassLoader;
import java.nio.charset.StandardCharsets;
import java.nio.file.Files;
import java.nio.file.Path;
import java.util.List;
import javax.tools.ToolProvider;

/** README.md: its example compiles against the class and prints what the README says. */
public final class ReadmeTest {
    private static final Checks CHECKS = new Checks();

    private ReadmeTest() {
    }

    public static void main(String[] args) throws Exception {
        String readme = Files.readString(Path.of("README.md"));
        CHECKS.equal("what Example prints", printed(block(readme, "```java\n")), block(readme, "It prints:\n\n```\n"));
        CHECKS.holds("it says how to run the tests", readme.contains("## How to run the tests\n\n    .ci/run\n"));
        everyTestIsTold(readme);
        CHECKS.end();
    }

    private static String block(String readme, String start) {
        int from = readme.indexOf(start);
        CHECKS.holds("README.md has " + start, from >= 0);
        int to = readme.indexOf("```", from + start.length());
        return from < 0 || to < 0 ? "" : readme.substring(from + start.length(), to);
    }

    private static String printed(String program) throws Exception {
        Path directory = Files.createTempDirectory("readme");
        Path file = directory.resolve("Example.java");
        try {
            Files.writeString(file, program);
            int failed = ToolProvider.getSystemJavaCompiler().run(null, null, null, "-d", directory.toString(),
                "-cp", System.getProperty("java.class.path"), file.toString());
            return failed == 0 ? run(directory) : "nothing, since it does not compile";
        } finally {
            for (String name : List.of("Example.java", "Example.class")) {
                Files.deleteIfExists(directory.resolve(name));
            }
            Files.deleteIfExists(directory);
        }
    }

    private static String run(Path directory) throws Exception {
        ByteArrayOutputStream bytes = new ByteArrayOutputStream();
        PrintStream console = System.out;
        try (URLClassLoader loader = new URLClassLoader(new URL[] {directory.toUri().toURL()})) {
            System.setOut(new PrintStream(bytes, true, StandardCharsets.UTF_8));
            loader.loadClass("Example").getMethod("main", String[].class).invoke(null, (Object) new String[0]);
        } finally {
            System.setOut(console);
        }
        return bytes.toString(StandardCharsets.UTF_8).replace(System.lineSeparator(), "\n");
    }

    private static void everyTestIsTold(String readme) throws IOException {
        try (var files = Files.newDirectoryStream(Path.of("src/test/java"), "*Test.java")) {
            for (Path file : files) {
                String name = file.getFileName().toString().replace(".java", "");
                String told = name.endsWith("PromisesTest") ? "*PromisesTest" : name;
                CHECKS.holds("README.md tells of " + name, readme.contains("`" + told + "`"));
            }
        }
    }
}
