import java.io.IOException;
import java.io.UncheckedIOException;
import java.net.URL;
import java.net.URLClassLoader;
import java.nio.file.Files;
import java.nio.file.Path;
import java.util.ArrayList;
import java.util.Comparator;
import java.util.List;
import java.util.stream.Stream;
import javax.tools.ToolProvider;

/**
 * The Java of README.md: what stands there is compiled and run, and each call must answer what the
 * page says behind it ("call; // answer: why", or "call; // throws SomeException: why").
 */
final class ReadmeTest {
    private final StringBuilder helpers = new StringBuilder();
    private final StringBuilder body = new StringBuilder();
    private final List<String> calls = new ArrayList<>();
    private final List<String> dues = new ArrayList<>();

    private ReadmeTest() {
    }

    public static void main(String[] args) throws Exception {
        ReadmeTest test = new ReadmeTest();
        test.readPage(Files.readString(Path.of("README.md")));
        List<?> answers = test.run();
        Checks.due("the page has examples", test.calls.size() > 20, true);
        Checks.due("every call answered", answers.size(), test.calls.size());
        for (int i = 0; i < test.calls.size() && i < answers.size(); i++) {
            String what = "README.md: " + test.calls.get(i) + " answered " + answers.get(i) + ", there stands " + test.dues.get(i);
            Checks.due(what, answers.get(i).equals(test.dues.get(i)), true);
        }
        Checks.end("ReadmeTest");
    }

    private void readPage(String page) {
        String[] parts = page.split("```java\n");
        for (int i = 1; i < parts.length; i++) {
            String block = parts[i].substring(0, parts[i].indexOf("```"));
            if (block.startsWith("static ")) {
                helpers.append(block);
            } else {
                block.lines().forEach(this::readLine);
            }
        }
    }

    private void readLine(String line) {
        int comment = line.indexOf("; // ");
        if (comment < 0) {
            body.append(line).append('\n');
            return;
        }
        String due = line.substring(comment + 5);
        calls.add(line.substring(0, comment));
        dues.add(due.substring(0, due.indexOf(':')));
        body.append("try { answers.add(String.valueOf(").append(line, 0, comment).append(")); } ")
                .append("catch (RuntimeException e) { answers.add(\"throws \" + e.getClass().getSimpleName()); }\n");
    }

    private List<?> run() throws Exception {
        Path place = Files.createTempDirectory("readme");
        try {
            Path file = place.resolve("Page.java");
            Files.writeString(file, "public class Page {\n" + helpers
                    + "public static java.util.List<String> run() {\n"
                    + "java.util.List<String> answers = new java.util.ArrayList<>();\n" + body
                    + "return answers;\n}\n}\n");
            int compiled = ToolProvider.getSystemJavaCompiler().run(null, null, null, "-d", place.toString(),
                    "-cp", System.getProperty("java.class.path"), file.toString());
            Checks.due("the page's Java compiles", compiled, 0);
            if (compiled != 0) {
                return List.of();
            }
            try (URLClassLoader loader = new URLClassLoader(new URL[] {place.toUri().toURL()})) {
                return (List<?>) loader.loadClass("Page").getMethod("run").invoke(null);
            }
        } finally {
            delete(place);
        }
    }

    private static void delete(Path place) throws IOException {
        try (Stream<Path> files = Files.walk(place)) {
            files.sorted(Comparator.reverseOrder()).forEach(ReadmeTest::deleteOne);
        }
    }

    private static void deleteOne(Path file) {
        try {
            Files.delete(file);
        } catch (IOException e) {
            throw new UncheckedIOException(e);
        }
    }
}
