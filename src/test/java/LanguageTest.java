import java.io.IOException;
import java.nio.file.Files;
import java.nio.file.Path;
import java.util.List;
import java.util.regex.Matcher;
import java.util.regex.Pattern;

/** What of LANGUAGE.md can be seen in the source line by line. It is run from the project's folder. */
public final class LanguageTest {
    private static final Path SOURCE = Path.of("src/main/java/Deadlinekeeper.java");
    private static final int MOST_LINES = 60;
    private static final int MOST_PARAMETERS = 7;

    private static final String[] FORBIDDEN = {
        "->", "::", "\\bfinally\\b", "\\btry\\b", "\\bcatch\\b", "\\bsynchronized\\b", "\\bassert\\b", "Exact\\(",
        "\\bpackage\\b", "\\bstatic \\{", "\\bSystem\\.(?!arraycopy)", "\\bequals\\(", "\\bhashCode\\(", "\\btoString\\(",
        "\\bRandom\\b", "\\bThread\\b", "getMessage", "\\bvar\\b", "\\bdouble\\b", "\\bfloat\\b", "\" \\+", "\\+ \"",
        "\\bmain\\("
    };

    public static void main(String[] args) throws IOException {
        List<String> lines = Files.readAllLines(SOURCE);
        for (int k = 0; k < lines.size(); k++) {
            String line = lines.get(k);
            String code = line.strip().startsWith("*") || line.strip().startsWith("/*") ? "" : line;
            for (String word : FORBIDDEN) {
                Check.is("line " + (k + 1) + " has " + word, Pattern.compile(word).matcher(code).find(), false);
            }
            Check.is("line " + (k + 1) + " has other signs", line.chars().allMatch(c -> c >= 32 && c < 127), true);
            if (code.startsWith("import")) {
                Check.is("line " + (k + 1), code, "import java.util.Arrays;");
            }
            parameters(k + 1, code);
        }
        methodsAreShort(lines);
        throwsAreWritten(String.join("\n", lines));
        Check.done("LanguageTest");
    }

    private static void parameters(int number, String code) {
        Matcher matcher = Pattern.compile("^ +(?:public|private|static|final| )*\\w+(?:\\[\\])* \\w+\\((.*)\\).*\\{$")
                .matcher(code);
        if (matcher.find()) {
            Check.is("line " + number + " has too many parameters",
                    matcher.group(1).split(",").length <= MOST_PARAMETERS, true);
        }
    }

    /** A method's body begins behind a line that ends with a brace and ends at the brace of the same depth. */
    private static void methodsAreShort(List<String> lines) {
        for (int k = 0; k < lines.size(); k++) {
            String line = lines.get(k);
            int depth = line.length() - line.stripLeading().length();
            boolean isMember = line.endsWith("{") && (depth == 4 || depth == 8) && line.contains("(");
            if (isMember) {
                int end = k;
                while (!lines.get(end).equals(" ".repeat(depth) + "}")) {
                    end++;
                }
                Check.is("line " + (k + 1) + " begins a long method", end - k <= MOST_LINES, true);
            }
        }
    }

    private static void throwsAreWritten(String source) {
        Matcher matcher = Pattern.compile("\\bthrow\\b[^;]*;").matcher(source);
        while (matcher.find()) {
            Check.is(matcher.group(), matcher.group().matches("throw new \\w+Exception\\(\"[^\"]+\"\\);"), true);
        }
    }
}
