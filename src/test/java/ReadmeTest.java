import java.io.File;
import java.io.IOException;
import java.lang.reflect.Method;
import java.lang.reflect.Modifier;
import java.nio.file.Files;
import java.nio.file.Path;
import java.util.ArrayList;
import java.util.List;
import java.util.TreeSet;
import java.util.regex.Matcher;
import java.util.regex.Pattern;
import java.util.stream.Stream;
import javax.tools.ToolProvider;

/** What README.md shows of the class's use holds, and it names every call and every test. */
public final class ReadmeTest {
    private static final Path README = Path.of("README.md");
    private static final Path TESTS = Path.of("src/test/java");
    private static final Pattern TOLD = Pattern.compile("\\s*(\\S.*);\\s*// (->|throws) ([-\\w]+)(:.*)?");
    private static final Pattern TEST_NAME = Pattern.compile("\\| `(\\w+Test)` \\|.*");

    /** The lines of its pieces of Java, as one run. */
    private static List<String> shown(List<String> readme) {
        List<String> lines = new ArrayList<>();
        boolean isJava = false;
        for (String line : readme) {
            if (line.startsWith("```")) {
                isJava = line.equals("```java");
            } else if (isJava) {
                lines.add(line);
            }
        }
        return lines;
    }

    /** A line that tells its answer becomes one that asks whether it is so. */
    private static String asked(String line) {
        Matcher told = TOLD.matcher(line);
        if (!told.matches()) {
            return line;
        }
        String call = told.group(1);
        return told.group(2).equals("->")
            ? "due.is(\"" + call + "\", " + call + ", " + told.group(3) + ");"
            : "due.refuses(\"" + call + "\", " + told.group(3) + ".class, () -> " + call + ");";
    }

    private static String program(List<String> shown) {
        StringBuilder text = new StringBuilder("public final class ReadmeRun {\n");
        text.append("public static void main(String[] args) {\nDue due = new Due(\"README.md\");\n");
        for (String line : shown) {
            text.append(asked(line)).append("\n");
        }
        return text.append("due.finish();\n}\n}\n").toString();
    }

    /** The exit code of the run, in a machine of its own. */
    private static int run(List<String> shown) throws IOException, InterruptedException {
        Path dir = Files.createTempDirectory("readme");
        Path file = dir.resolve("ReadmeRun.java");
        Files.writeString(file, program(shown));
        String classes = System.getProperty("java.class.path");
        int compiled = ToolProvider.getSystemJavaCompiler()
            .run(null, null, null, "-cp", classes, "-d", dir.toString(), file.toString());
        int code = 1;
        if (compiled == 0) {
            String java = Path.of(System.getProperty("java.home"), "bin", "java").toString();
            code = new ProcessBuilder(java, "-cp", classes + File.pathSeparator + dir, "ReadmeRun")
                .inheritIO().start().waitFor();
        }
        try (Stream<Path> files = Files.list(dir)) {
            for (Path made : files.toList()) {
                Files.delete(made);
            }
        }
        Files.delete(dir);
        return code;
    }

    private static TreeSet<String> testsNamed(List<String> readme) {
        TreeSet<String> names = new TreeSet<>();
        for (String line : readme) {
            Matcher row = TEST_NAME.matcher(line);
            if (row.matches()) {
                names.add(row.group(1));
            }
        }
        return names;
    }

    private static TreeSet<String> testsThere() throws IOException {
        TreeSet<String> names = new TreeSet<>();
        try (Stream<Path> files = Files.list(TESTS)) {
            for (Path file : files.toList()) {
                String name = file.getFileName().toString();
                if (name.endsWith("Test.java")) {
                    names.add(name.substring(0, name.length() - ".java".length()));
                }
            }
        }
        return names;
    }

    public static void main(String[] args) throws IOException, InterruptedException {
        Due due = new Due("ReadmeTest");
        List<String> readme = Files.readAllLines(README);
        List<String> shown = shown(readme);
        for (String line : shown) {
            boolean tells = line.contains("// ->") || line.contains("// throws");
            due.is("can be asked: " + line, TOLD.matcher(line).matches(), tells);
        }
        due.is("exit code of what README.md shows", run(shown), 0);
        String all = String.join("\n", shown);
        for (Method m : SealedGateway.class.getDeclaredMethods()) {
            if (Modifier.isPublic(m.getModifiers())) {
                due.is("README.md shows " + m.getName(), all.contains("." + m.getName() + "("), true);
            }
        }
        TreeSet<String> named = testsNamed(readme);
        TreeSet<String> there = testsThere();
        due.is("tests that README.md names " + named + " are those there " + there, named.equals(there), true);
        due.finish();
    }
}
