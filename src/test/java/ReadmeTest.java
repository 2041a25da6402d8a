import java.io.IOException;
import java.io.UncheckedIOException;
import java.net.URL;
import java.net.URLClassLoader;
import java.nio.file.Files;
import java.nio.file.Path;
import java.util.ArrayList;
import java.util.List;
import java.util.TreeSet;
import java.util.regex.Matcher;
import java.util.regex.Pattern;
import java.util.stream.Stream;
import javax.tools.ToolProvider;

/** That README.md shows what the class answers, and names each test. It is run from the directory of README.md. */
public final class ReadmeTest {
    private static final Path README = Path.of("README.md");
    private static final Pattern CALL =
        Pattern.compile("(x\\.(\\w+)\\(.*\\));(?:\\s*//(?: (answers|throws) (-?\\w+))?.*)?");
    private static final TreeSet<String> WITHOUT_ANSWER = new TreeSet<>(List.of("end", "set", "put"));
    private static final String ALL_CALLS = "[end, feed, get, load, place, places, put, run, set, steps, word]";

    private final List<String> told = new ArrayList<>();
    private final List<String> due = new ArrayList<>();
    private final TreeSet<String> called = new TreeSet<>();
    private final StringBuilder source = new StringBuilder();

    public static void main(String[] args) throws Exception {
        ReadmeTest test = new ReadmeTest();
        test.readExample();
        test.runExample();
        namesEachTest();
        Check.finish();
    }

    /** The example's lines, each answer that it tells being kept in a list instead of lost. */
    private void readExample() throws IOException {
        source.append("import java.util.List;\npublic final class ReadmeExample {\n");
        for (String name : List.of("NONE", "EXIT", "FUEL", "TRAP")) {
            source.append("static final int " + name + " = CompiledProgram." + name + ";\n");
        }
        source.append("public static void run(List<String> got, List<String> due) {\n");
        for (String line : exampleLines()) {
            addLine(line.strip());
        }
        source.append("}\n}\n");
        Check.same("which methods are in the example", called.toString(), ALL_CALLS);
    }

    private static List<String> exampleLines() throws IOException {
        List<String> lines = Files.readAllLines(README);
        int from = lines.indexOf("```java") + 1;
        Check.holds("README.md has an example", from > 0);
        List<String> rest = lines.subList(from, lines.size());
        int length = rest.indexOf("```");
        Check.holds("the example has an end", length > 0);
        return rest.subList(0, Math.max(0, length));
    }

    private void addLine(String line) {
        Matcher m = CALL.matcher(line);
        if (!m.matches()) {
            source.append(line).append('\n');
            return;
        }
        String call = m.group(1);
        called.add(m.group(2));
        if (m.group(3) == null) {
            Check.holds("README.md tells what " + call + " answers", WITHOUT_ANSWER.contains(m.group(2)));
            source.append(call + ";\n");
            return;
        }
        told.add(call);
        if (m.group(3).equals("answers")) {
            source.append("got.add(\"\" + " + call + "); due.add(\"\" + " + m.group(4) + ");\n");
        } else {
            source.append("try { " + call + "; got.add(\"nothing\"); }"
                + " catch (RuntimeException e) { got.add(e.getClass().getSimpleName()); }"
                + " due.add(\"" + m.group(4) + "\");\n");
        }
    }

    private void runExample() throws Exception {
        Path directory = Files.createTempDirectory("readme");
        try {
            Path file = directory.resolve("ReadmeExample.java");
            Files.writeString(file, source);
            int failed = ToolProvider.getSystemJavaCompiler().run(null, null, null,
                "-cp", System.getProperty("java.class.path"), "-d", directory.toString(), file.toString());
            Check.same("compiling the example", failed, 0);
            if (failed == 0) {
                compareAnswers(directory);
            }
        } finally {
            remove(directory);
        }
    }

    private void compareAnswers(Path directory) throws Exception {
        List<String> got = new ArrayList<>();
        try (URLClassLoader loader = new URLClassLoader(new URL[] {directory.toUri().toURL()})) {
            loader.loadClass("ReadmeExample").getMethod("run", List.class, List.class).invoke(null, got, due);
        }
        Check.same("how many answers the example has", got.size(), told.size());
        for (int k = 0; k < got.size(); k++) {
            Check.same("README.md: " + told.get(k), got.get(k), due.get(k));
        }
    }

    private static void remove(Path directory) throws IOException {
        try (Stream<Path> files = Files.list(directory)) {
            files.forEach(ReadmeTest::delete);
        }
        delete(directory);
    }

    private static void delete(Path file) {
        try {
            Files.delete(file);
        } catch (IOException e) {
            throw new UncheckedIOException(e);
        }
    }

    private static void namesEachTest() throws IOException {
        String text = Files.readString(README);
        Check.holds("README.md names .ci/run", text.contains("\n    .ci/run\n"));
        Check.holds(".ci/run can be run", Files.isExecutable(Path.of(".ci/run")));
        try (Stream<Path> files = Files.list(Path.of("src/test/java"))) {
            files.map(f -> f.getFileName().toString()).filter(f -> f.endsWith("Test.java")).forEach(f -> {
                String name = f.substring(0, f.length() - ".java".length());
                Check.holds("README.md names " + name, text.contains("`" + name + "`"));
            });
        }
    }
}
