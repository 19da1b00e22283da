import java.io.IOException;
import java.nio.file.Files;
import java.nio.file.Path;
import java.util.regex.Matcher;
import java.util.regex.Pattern;

/** The rules of LANGUAGE.md that can be seen in the text of the class. */
public final class LanguageTest {
    private static final Path SOURCE = Path.of("src/main/java/FlowGrid.java");
    private static final Pattern METHOD = Pattern.compile("\\b\\w+\\(([^()]*)\\)\\s*(throws [\\w, ]+)?\\{");
    private static final int MOST_LINES = 60;
    private static final int MOST_PARAMETERS = 7;
    private static final Checks CHECKS = new Checks();

    public static void main(String[] args) throws IOException {
        String text = Files.readString(SOURCE).replaceAll("(?s)/\\*.*?\\*/", "").replaceAll("//[^\n]*", "");
        String code = text.replaceAll("\"[^\"\n]*\"", "\"\"");
        never(code, "rule 1", "^package\\b", "\\bprotected\\b");
        never(code, "rule 2", "->", "::");
        never(code, "rule 3", "\\bMath\\b", "\\bfloat\\b", "\\bObject\\b", "%");
        never(code, "rule 4", "^import (?!java\\.util\\.NoSuchElementException;)");
        never(code, "rule 5", "\\bstatic\\s*\\{", "\\bstatic (?!final )\\w+ \\w+ *[=;]",
                "\\bstatic final (?!int |class )\\w+");
        never(code, "rule 6", "\\btry\\b", "\\bcatch\\b", "\\bfinally\\b", "\\bsynchronized\\b", "\\bassert\\b",
                "\\bthrow (?!new (IllegalArgument|IllegalState|NoSuchElement)Exception\\(\"\"\\);)");
        never(code, "rule 9", "\\bwhile \\(true\\)", "\\bfor \\(;");
        // Rows are made with their object and used again: all else that is made is an exception.
        never(code, "rule 12", "(?<!throw )(?<!final \\w{1,20}(\\[\\])? \\w{1,20} = )\\bnew\\b");
        never(code, "rule 13", "\\bSystem\\.(?!arraycopy)", "\\bThread\\b", "\\bRandom\\b");
        methods(code);
        CHECKS.end();
    }

    private static void never(String code, String rule, String... patterns) {
        for (String pattern : patterns) {
            Matcher found = Pattern.compile(pattern, Pattern.MULTILINE).matcher(code);
            boolean held = !found.find();
            CHECKS.holds(rule + ", " + pattern + (held ? "" : " at offset " + found.start()), held);
        }
    }

    private static void methods(String code) {
        Matcher method = METHOD.matcher(code);
        int seen = 0;
        while (method.find()) {
            seen++;
            CHECKS.holds("rule 11, parameters of " + method.group(),
                    method.group(1).split(",").length <= MOST_PARAMETERS);
            CHECKS.holds("rule 11, lines of " + method.group(), lines(code, method.end()) <= MOST_LINES);
        }
        CHECKS.holds("the methods were found", seen >= 11);
    }

    private static int lines(String code, int begin) {
        int open = 1;
        int lines = 1;
        for (int i = begin; i < code.length() && open > 0; i++) {
            char c = code.charAt(i);
            open += c == '{' ? 1 : c == '}' ? -1 : 0;
            lines += c == '\n' ? 1 : 0;
        }
        return lines;
    }
}
