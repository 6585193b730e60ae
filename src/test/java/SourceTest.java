import java.nio.charset.StandardCharsets;
import java.nio.file.Files;
import java.nio.file.Path;
import java.util.List;
import java.util.regex.Matcher;
import java.util.regex.Pattern;

/** What of LANGUAGE.md can be seen in the text of the class itself. Run from the project's root. */
final class SourceTest {
    private static final Path SOURCE = Path.of("src/main/java/FilledHoles.java");
    private static final String[] RULED_OUT = {
        "->", "::", "\\bfinally\\b", "\\bsynchronized\\b", "\\bassert\\b", "\\bcatch\\b", "\\bpackage\\b",
        "Exact\\(", "\\bstatic \\{", "\\.equals\\(", "\\.hashCode\\(", "\\.toString\\(", "\\bprotected\\b",
        "\\bSystem\\.(?!arraycopy)", "\\bdouble\\b", "\\bfloat\\b", "\\bThread\\b", "\\bRandom\\b"};

    public static void main(String[] args) throws java.io.IOException {
        List<String> lines = Files.readAllLines(SOURCE, StandardCharsets.US_ASCII);
        String code = String.join("\n", lines).replaceAll("(?s)/\\*.*?\\*/", "").replaceAll("//[^\n]*", "");
        for (String pattern : RULED_OUT) {
            Matcher found = Pattern.compile(pattern).matcher(code);
            Check.due("ruled out: " + pattern, 0, found.find() ? 1 : 0);
        }
        Matcher imports = Pattern.compile("import ([^;]*);").matcher(code);
        while (imports.find()) {
            boolean listed = List.of("java.util.Arrays", "java.util.NoSuchElementException", "java.util.ArrayList",
                    "java.util.List", "java.util.Iterator").contains(imports.group(1));
            Check.due("import " + imports.group(1), 1, listed ? 1 : 0);
        }
        checkThrows(code);
        checkMethodLengths(lines);
        Check.end();
    }

    private static void checkThrows(String code) {
        Matcher found = Pattern.compile("throw ([^;]*);").matcher(code);
        while (found.find()) {
            boolean allowed = found.group(1).matches("new (NoSuchElement|IllegalArgument)Exception\\(\"[^\"]*\"\\)");
            Check.due("throw " + found.group(1), 1, allowed ? 1 : 0);
        }
    }

    private static void checkMethodLengths(List<String> lines) {
        Pattern head = Pattern.compile("^(    |        )(?! )[^=;]*\\) ?(throws [^{]*)?\\{$");
        for (int i = 0; i < lines.size(); i++) {
            Matcher method = head.matcher(lines.get(i));
            if (method.matches()) {
                int end = i;
                while (end < lines.size() && !lines.get(end).equals(method.group(1) + "}")) {
                    end++;
                }
                Check.due("at most sixty lines: " + lines.get(i).trim(), 1, end - i <= 60 ? 1 : 0);
            }
        }
    }
}
