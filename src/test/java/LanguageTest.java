import java.io.IOException;
import java.nio.file.Files;
import java.nio.file.Path;
import java.util.List;
import java.util.regex.Pattern;

/** The rules of LANGUAGE.md that a look at the text of the program can tell. */
public final class LanguageTest {
    private static final String[] RULED_OUT = {
        "->", "::", "\\bcatch\\b", "\\bfinally\\b", "\\btry\\b", "\\bsynchronized\\b", "\\bassert\\b", "\\binstanceof\\b",
        "\\w+Exact\\b", "\\bpackage\\b", "\\bprotected\\b", "\\b(Object|System\\.(out|err|in|nanoTime|exit))\\b",
        "\\bnew (RuntimeException|NullPointerException|Error)\\b", "\\b(hashCode|equals|toString)\\(", "\" ?\\+", "\\+ ?\"",
        "import (?!java\\.util\\.NoSuchElementException;)", "%|(?<![/*])/(?![/*])(?! (\\(double\\) tours|\\(float\\) tries|2);)",
    };

    private LanguageTest() {
    }

    public static void main(String[] args) throws IOException {
        List<String> lines = Files.readAllLines(Path.of(args[0]));
        for (int i = 0; i < lines.size(); i++) {
            checkLine(i + 1, withoutTexts(lines.get(i)));
        }
        checkLengths(lines);
        Check.end("LanguageTest");
    }

    /** Leaves comments, and what stands in quotes, out. */
    private static String withoutTexts(String line) {
        if (line.trim().startsWith("/**") || line.trim().startsWith("//")) {
            return "";
        }
        return line.replaceAll("\"[^\"]*\"", "\"\"").replaceAll("'[^']*'", "''");
    }

    private static void checkLine(int number, String line) {
        for (String ruledOut : RULED_OUT) {
            Check.yes("line " + number + " has none of " + ruledOut, !Pattern.compile(ruledOut).matcher(line).find());
        }
        Check.yes("line " + number + " has only signs 1 to 127", line.chars().allMatch(sign -> sign > 0 && sign < 128));
    }

    /** A method begins with a line that ends with a brace, and ends with the brace that is indented like it. */
    private static void checkLengths(List<String> lines) {
        for (int i = 0; i < lines.size(); i++) {
            String line = lines.get(i);
            String indent = line.substring(0, line.length() - line.stripLeading().length());
            boolean isMethod = line.matches("( {4}| {8})(\\w+ )*\\w+\\(.*\\{") || line.matches(" {12}throws .*\\{");
            if (isMethod) {
                String end = (line.startsWith("            ") ? "    " : indent) + "}";
                int last = i;
                while (last < lines.size() && !lines.get(last).equals(end)) {
                    last++;
                }
                Check.yes("the method in line " + (i + 1) + " has at most forty lines", last - i <= 40);
            }
        }
    }
}
