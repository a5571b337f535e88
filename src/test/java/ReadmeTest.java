import java.io.IOException;
import java.net.URL;
import java.net.URLClassLoader;
import java.nio.file.Files;
import java.nio.file.Path;
import java.util.ArrayList;
import java.util.List;
import java.util.regex.Matcher;
import java.util.regex.Pattern;
import java.util.stream.Stream;
import javax.tools.ToolProvider;

/** What README.md says holds: its examples answer what stands behind "->", and it names every test that there is. */
public final class ReadmeTest {
    private static final Path README = Path.of("README.md");
    private static final Path TESTS = Path.of("src/test/java");
    /** A call, kept in a variable or not, and the answer that README.md tells for it. */
    private static final Pattern ANSWERED = Pattern.compile("(?:int (\\w+) = )?(kernel\\..*); *// -> ([^:]+)(?::.*)?");
    private static final Check check = new Check();
    private static int answers = 0;

    public static void main(String[] args) throws IOException, ReflectiveOperationException {
        List<String> lines = Files.readAllLines(README);
        check.section("README.md");
        examples(lines);
        namesOfTests(String.join("\n", lines));
        check.finish();
    }

    private static void examples(List<String> lines) throws IOException, ReflectiveOperationException {
        List<List<String>> blocks = javaBlocks(lines);
        check.same("examples", blocks.size(), 2);
        Path dir = Files.createTempDirectory("readme");
        for (int k = 0; k < blocks.size(); k++) {
            runExample(dir, "Example" + k, blocks.get(k));
        }
        check.same("answers looked at", answers, lines.stream().filter(line -> line.contains("// ->")).count());
        deleteAll(dir);
    }

    private static List<List<String>> javaBlocks(List<String> lines) {
        List<List<String>> blocks = new ArrayList<>();
        boolean inside = false;
        for (String line : lines) {
            if (line.startsWith("```")) {
                inside = line.equals("```java");
                if (inside) {
                    blocks.add(new ArrayList<>());
                }
            } else if (inside) {
                blocks.get(blocks.size() - 1).add(line);
            }
        }
        return blocks;
    }

    private static void runExample(Path dir, String name, List<String> block) throws IOException, ReflectiveOperationException {
        StringBuilder source = new StringBuilder("public final class " + name + " {\n    public static void run() {\n");
        for (String line : block) {
            source.append("        ").append(checked(line)).append('\n');
        }
        Path file = Files.writeString(dir.resolve(name + ".java"), source.append("    }\n}\n"));
        int refused = ToolProvider.getSystemJavaCompiler().run(null, null, null,
                "-cp", System.getProperty("java.class.path"), "-d", dir.toString(), file.toString());
        check.same(name + " compiles", refused, 0);
        if (refused == 0) {
            try (URLClassLoader loader = new URLClassLoader(new URL[] {dir.toUri().toURL()})) {
                loader.loadClass(name).getMethod("run").invoke(null);
            }
        }
    }

    private static String checked(String line) {
        Matcher m = ANSWERED.matcher(line);
        if (!m.matches()) {
            return line;
        }
        answers++;
        String kept = m.group(1) == null ? "" : "int " + m.group(1) + " = " + m.group(2) + "; ";
        String answer = m.group(1) == null ? m.group(2) : m.group(1);
        return kept + "ReadmeTest.due(\"" + m.group(2) + "\", " + answer + ", " + m.group(3) + ");";
    }

    /** Called by the examples. */
    public static void due(String call, int got, int told) {
        check.same(call, got, told);
    }

    private static void namesOfTests(String text) throws IOException {
        try (Stream<Path> files = Files.list(TESTS)) {
            for (Path file : files.toList()) {
                String name = file.getFileName().toString().replace(".java", "");
                if (name.endsWith("Test")) {
                    check.same("names " + name, text.contains("`" + name + "`"), true);
                }
            }
        }
        Matcher named = Pattern.compile("`(\\w+Test)`").matcher(text);
        while (named.find()) {
            check.same("there is " + named.group(1), Files.exists(TESTS.resolve(named.group(1) + ".java")), true);
        }
    }

    private static void deleteAll(Path dir) throws IOException {
        try (Stream<Path> files = Files.list(dir)) {
            for (Path file : files.toList()) {
                Files.delete(file);
            }
        }
        Files.delete(dir);
    }
}
