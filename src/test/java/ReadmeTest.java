import java.io.ByteArrayOutputStream;
import java.io.IOException;
import java.lang.reflect.Method;
import java.lang.reflect.Modifier;
import java.nio.file.Files;
import java.nio.file.Path;
import java.util.Comparator;
import java.util.List;
import java.util.stream.Stream;
import javax.tools.JavaCompiler;
import javax.tools.ToolProvider;

/**
 * What README.md says: its program compiles and prints just what stands there, and every call of
 * the face, with its parameters, and every test has its place there. README's path is the third
 * argument.
 */
public final class ReadmeTest {
    private static final String PROGRAM = "Example";

    public static void main(String[] args) throws Exception {
        Path readme = Path.of(args.length > 2 ? args[2] : "README.md");
        String page = Files.readString(readme);
        program(page);
        calls(page);
        tests(page, readme.toAbsolutePath().resolveSibling("src/test/java"));
        Check.due("the document's NONE", true, page.contains("`LuckCrates.NONE` (" + LuckCrates.NONE + ")"));
        Check.end();
    }

    private static void program(String page) throws Exception {
        Path work = Files.createTempDirectory("readme");
        try {
            Path source = work.resolve(PROGRAM + ".java");
            Files.writeString(source, block(page, "java"));
            JavaCompiler compiler = ToolProvider.getSystemJavaCompiler();
            ByteArrayOutputStream said = new ByteArrayOutputStream();
            int status = compiler.run(null, said, said, "-cp", System.getProperty("java.class.path"),
                    "-d", work.toString(), source.toString());
            Check.due("javac of the program (" + said + ")", 0, status);
            if (status == 0) {
                String printed = printed(work);
                Check.due("the program printed\n" + printed + "as README.md says", true,
                        printed.equals(block(page, "text")));
            }
        } finally {
            remove(work);
        }
    }

    /** What the program prints, in a Java machine of its own. */
    private static String printed(Path work) throws IOException, InterruptedException {
        String java = Path.of(System.getProperty("java.home"), "bin", "java").toString();
        String path = work + System.getProperty("path.separator") + System.getProperty("java.class.path");
        Process process = new ProcessBuilder(java, "-cp", path, PROGRAM).redirectErrorStream(true).start();
        String printed = new String(process.getInputStream().readAllBytes());
        Check.due("the program's exit code", 0, process.waitFor());
        return printed.replace("\r\n", "\n");
    }

    private static String block(String page, String kind) {
        String open = "```" + kind + "\n";
        int from = page.indexOf(open);
        int to = page.indexOf("```", from + open.length());
        Check.due("a block of " + kind, true, from >= 0 && to >= 0);
        return from >= 0 && to >= 0 ? page.substring(from + open.length(), to) : "";
    }

    private static void calls(String page) {
        for (Method m : LuckCrates.class.getDeclaredMethods()) {
            if (Modifier.isPublic(m.getModifiers())) {
                int at = page.indexOf("`" + m.getName() + "(");
                Check.due("README.md names " + m.getName(), true, at >= 0);
                if (at >= 0) {
                    String inside = page.substring(page.indexOf('(', at) + 1, page.indexOf(')', at));
                    int named = inside.isEmpty() ? 0 : inside.split(", ").length;
                    Check.due("parameters of " + m.getName(), m.getParameterCount(), named);
                }
            }
        }
    }

    private static void tests(String page, Path sources) throws IOException {
        List<String> names;
        try (Stream<Path> files = Files.list(sources)) {
            names = files.map(f -> f.getFileName().toString()).filter(n -> n.endsWith("Test.java"))
                    .map(n -> n.replace(".java", "")).toList();
        }
        Check.due("tests are found", true, names.size() > 10);
        for (String name : names) {
            Check.due("README.md tells of " + name, true, page.contains("| `" + name + "` |"));
        }
        long rows = page.lines().filter(line -> line.matches("\\| `\\w+Test` \\|.*")).count();
        Check.due("tests that README.md tells of", names.size(), rows);
    }

    private static void remove(Path work) throws IOException {
        try (Stream<Path> files = Files.walk(work)) {
            for (Path file : files.sorted(Comparator.reverseOrder()).toList()) {
                Files.delete(file);
            }
        }
    }
}
