import java.io.IOException;
import java.nio.file.Files;
import java.nio.file.Path;
import java.util.List;
import java.util.regex.Matcher;
import java.util.regex.Pattern;

/** Rules of LANGUAGE.md that a look at the source can tell; its path is the first argument. */
public final class LanguageTest {
    private static final int MOST_LINES = 60;
    private static final int MOST_PARAMETERS = 7;
    private static final int MOST_CLASSES = 12;

    public static void main(String[] args) throws IOException {
        String path = args.length > 0 ? args[0] : "src/main/java/LuckCrates.java";
        String source = Files.readString(Path.of(path));
        Check.due("signs 1 to 127 alone", true, source.chars().allMatch(c -> c == '\n' || c >= 32 && c < 127));
        String code = source.replaceAll("(?s)/\\*.*?\\*/", "").replaceAll("//[^\n]*", "")
                .replaceAll("\"[^\"\n]*\"", "\"\"");
        nothingOf(code);
        library(code);
        exceptions(source, code);
        shape(code);
        Check.end();
    }

    private static void nothingOf(String code) {
        List<String> ruledOut = List.of("->", "::", "\\btry\\b", "\\bcatch\\b", "\\bfinally\\b", "\\bsynchronized\\b",
                "\\bassert\\b", "\\bpackage\\b", "\\bprotected\\b", "Exact\\b", "\\bThread\\b", "\\bRandom\\b", "\\bObject\\b",
                "\\bstatic\\s*\\{", "\"\"\\s*\\+", "\\+\\s*\"\"", "while \\(true\\)", "\\bvar\\b", "\\bnative\\b", "\\bvolatile\\b");
        for (String sign : ruledOut) {
            Check.due("none of " + sign, false, Pattern.compile(sign).matcher(code).find());
        }
    }

    private static void library(String code) {
        Matcher imports = Pattern.compile("import ([^;]*);").matcher(code);
        while (imports.find()) {
            Check.due("import " + imports.group(1), true, imports.group(1).equals("java.util.NoSuchElementException"));
        }
        Matcher uses = Pattern.compile("\\b(System|Math|Integer|Long|Arrays)\\.(\\w+)").matcher(code);
        List<String> allowed = List.of("System.arraycopy", "Math.max", "Math.min", "Math.abs", "Integer.bitCount");
        while (uses.find()) {
            Check.due("use of " + uses.group(), true, allowed.contains(uses.group()));
        }
        Matcher statics = Pattern.compile("\\bstatic (?!final)[\\w\\[\\]]+ \\w+\\s*[=;]").matcher(code);
        Check.due("no static field that isn't final", false, statics.find());
    }

    private static void exceptions(String source, String code) {
        Matcher thrown = Pattern.compile("\\bthrow\\b[^;]*;").matcher(source);
        Pattern due = Pattern.compile("throw new (NoSuchElementException|IllegalArgumentException)\\(\"[^\"]+\"\\);");
        int many = 0;
        while (thrown.find()) {
            many++;
            Check.due(thrown.group(), true, due.matcher(thrown.group()).matches());
        }
        Check.due("it throws by itself", true, many > 0);
    }

    private static void shape(String code) {
        int classes = 0;
        Matcher named = Pattern.compile("\\bclass \\w+").matcher(code);
        while (named.find()) {
            classes++;
        }
        Check.due("classes", true, classes <= MOST_CLASSES);
        Matcher methods = Pattern.compile("\n( +)(?:\\w+ )*[\\w\\[\\]]+ (\\w+)\\(([^)]*)\\)\\s*(?:throws [^{]*)?\\{\n")
                .matcher(code);
        int many = 0;
        while (methods.find()) {
            if (List.of("if", "for", "while", "switch").contains(methods.group(2))) {
                continue;
            }
            many++;
            int end = code.indexOf("\n" + methods.group(1) + "}", methods.end() - 1);
            long lines = code.substring(methods.start() + 1, Math.max(end, methods.end())).lines().count() + 1;
            Check.due(methods.group(2) + " is short", true, lines <= MOST_LINES);
            int parameters = methods.group(3).isBlank() ? 0 : methods.group(3).split(",").length;
            Check.due(methods.group(2) + " has few parameters", true, parameters <= MOST_PARAMETERS);
        }
        Check.due("methods are found", true, many > 100);
    }
}
