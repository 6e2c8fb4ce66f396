import java.nio.file.Files;
import java.nio.file.Path;
import java.util.regex.Matcher;
import java.util.regex.Pattern;

/** What LANGUAGE.md rules out and the class needs nowhere: a look at its text, run from the project's folder. */
public final class LanguageTest {
    private static final String[] RULED_OUT = {"\\bimport\\b", "\\bpackage\\b", "->", "::", "\\btry\\b", "\\bcatch\\b", "\\bthrow\\b",
        "\\bfinally\\b", "\\bsynchronized\\b", "\\bassert\\b", "\\bnative\\b", "\\bdouble\\b", "\\bfloat\\b", "Exact\\b",
        "\\bSystem\\.(?!arraycopy\\b)", "\\bMath\\.(?!max\\b|min\\b|abs\\b)", "\\bInteger\\.(?!bitCount\\b|numberOfTrailingZeros\\b)",
        "\\bstatic\\s*\\{", "\\b(?:equals|hashCode|toString)\\s*\\(", "while\\s*\\(\\s*true", "\\bjava\\."};

    public static void main(String[] args) throws Exception {
        Due due = new Due();
        String text = Files.readString(Path.of("src/main/java/SignedSheets.java"));
        String code = text.replaceAll("(?s)/\\*.*?\\*/", "").replaceAll("//[^\n]*", "");
        for (String pattern : RULED_OUT) {
            Matcher m = Pattern.compile(pattern).matcher(code);
            due.holds("the class is without " + pattern, !m.find());
        }
        due.holds("signs are 1 to 127", text.chars().allMatch(c -> c > 0 && c < 128));
        lengths(due, code);
        due.end("LanguageTest");
    }

    /** By the indents: a method stands at 4 or 8 columns and ends with a brace in the same column. */
    private static void lengths(Due due, String code) {
        String[] lines = code.split("\n");
        for (int i = 0; i < lines.length; i++) {
            String indent = lines[i].substring(0, lines[i].length() - lines[i].stripLeading().length());
            boolean opens = lines[i].endsWith(") {") && (indent.length() == 4 || indent.length() == 8 && !lines[i].matches("\\s*(if|for|while|switch|}).*"));
            if (opens) {
                int end = i + 1;
                while (end < lines.length && !lines[end].equals(indent + "}")) {
                    end++;
                }
                due.holds(lines[i].strip() + " has sixty lines at most", end - i <= 60);
            }
        }
    }
}
