import java.io.IOException;
import java.nio.file.Files;
import java.nio.file.Path;
import java.util.regex.Matcher;
import java.util.regex.Pattern;

/** The rules of LANGUAGE.md that can be seen in the text of the class. */
public final class LanguageTest {
    private static final int MOST_LINES_OF_METHOD = 60;
    private static final int MOST_PARAMETERS = 7;
    private static final int MOST_CLASSES = 12;

    private static final String[] FORBIDDEN = {
        "->", "::", "@", "\\bcatch\\b", "\\bfinally\\b", "\\btry\\b", "\\bsynchronized\\b", "\\bassert\\b",
        "\\bstatic\\s*\\{", "\\bpackage\\b", "\\bdouble\\b", "\\bfloat\\b", "Exact\\b", "\\bSystem\\.(?!arraycopy)",
        "\\bMath\\.(?!min|max|abs)", "\\bvar\\b", "\\bprotected\\b", "\\bhashCode\\b", "\\btoString\\b",
        "\\bequals\\b", "\"\\s*\\+", "\\+\\s*\"", "[^\\x00-\\x7f]", "import (?!java\\.util\\.Arrays;)",
        "throw (?!new (IndexOutOfBounds|IllegalArgument|IllegalState)Exception\\(\"[a-z0-9 ]*\"\\);)"
    };

    public static void main(String[] args) throws IOException {
        Check check = new Check("LanguageTest");
        String text = Files.readString(Path.of("src/main/java/CableChart.java"));
        String code = text.replaceAll("(?s)/\\*.*?\\*/", "").replaceAll("//[^\n]*", "");
        for (String pattern : FORBIDDEN) {
            check.due("signs that match " + pattern, count(pattern, code), 0);
        }
        check.due("not more classes than told", count("\\bclass\\b", code) <= MOST_CLASSES, true);
        check.due("non-final static fields", count("static (?!final )[\\w\\[\\]]+ \\w+ ?[=;]", code), 0);
        methods(check, code);
        check.end();
    }

    private static int count(String pattern, String code) {
        Matcher matcher = Pattern.compile(pattern).matcher(code);
        int found = 0;
        while (matcher.find()) {
            found++;
        }
        return found;
    }

    private static void methods(Check check, String code) {
        Matcher heads = Pattern.compile("(?m)^( +)(?:(?:public|private|static) )*\\w+(?: \\w+)?\\(([^)]*)\\)[^;{}]*\\{$"
                + "(?s)(.*?)\n\\1\\}").matcher(code);
        int seen = 0;
        while (heads.find()) {
            String head = heads.group().strip().split("\n")[0];
            int parameters = heads.group(2).isEmpty() ? 0 : heads.group(2).split(",").length;
            check.due("few parameters: " + head, parameters <= MOST_PARAMETERS, true);
            check.due("short: " + head, heads.group(3).split("\n").length <= MOST_LINES_OF_METHOD, true);
            seen++;
        }
        check.due("methods were seen", seen > 30, true);
    }
}
