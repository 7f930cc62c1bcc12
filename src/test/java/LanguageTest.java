import java.io.IOException;
import java.nio.file.Files;
import java.nio.file.Path;
import java.util.regex.Matcher;
import java.util.regex.Pattern;

/** The rules of LANGUAGE.md that single words and lines of the source show. Runs in the project's folder. */
public final class LanguageTest {
    private static final String[] FORBIDDEN = {
        "\\bthrow\\b", "\\bthrows\\b", "\\btry\\b", "\\bcatch\\b", "\\bfinally\\b", "\\bsynchronized\\b", "\\bassert\\b",
        "\\bpackage\\b", "\\bprotected\\b", "\\bvolatile\\b", "\\bvar\\b", "\\bSystem\\.(?!arraycopy\\b)", "->", "::",
        "\\bequals\\s*\\(", "\\bhashCode\\s*\\(", "\\btoString\\s*\\(", "Exact\\s*\\(", "\\bThread\\b", "\\bRandom\\b",
        "static\\s*\\{", "import\\s+(?!java\\.util\\.Arrays;)", "[^\\x00-\\x7f]"};
    private static final int LONGEST_METHOD = 60;
    private static final int MOST_CLASSES = 12;
    private static final int MOST_PARAMETERS = 7;

    public static void main(String[] args) throws IOException {
        String code = withoutComments(Files.readString(Path.of("src/main/java/ClosExchange.java")));
        for (String forbidden : FORBIDDEN) {
            Due.due("places of " + forbidden, count(code, forbidden), 0);
        }
        Due.due("top classes", count(code, "(?m)^(?:public |final |abstract )*(?:class|interface|enum|record)\\b"), 1);
        int classes = count(code, "\\b(?:class|interface|enum|record)\\s+[A-Z]");
        Due.due(classes + " classes are few enough", classes <= MOST_CLASSES ? 1 : 0, 1);
        Due.due("classes inside that aren't static", classes - 1 - count(code, "\\bstatic final class\\s+[A-Z]"), 0);
        methods(code);
        Due.end("LanguageTest");
    }

    private static String withoutComments(String source) {
        return source.replaceAll("(?s)/\\*.*?\\*/", "").replaceAll("//[^\n]*", "");
    }

    private static int count(String code, String pattern) {
        return (int) Pattern.compile(pattern).matcher(code).results().count();
    }

    /** A method begins with a head that ends in "{" and ends with "}" at the same indent. */
    private static void methods(String code) {
        Matcher method = Pattern.compile("(?ms)^( +)(?:[a-z]+ )*[\\w\\[\\]]+(?: \\w+)?\\(([^;{}]*?)\\) \\{\n(.*?)\n\\1\\}").matcher(code);
        int methods = 0;
        while (method.find()) {
            methods++;
            String head = method.group().split("\n")[0].trim();
            long lines = method.group().lines().count();
            Due.due(head + " has " + lines + " lines", lines <= LONGEST_METHOD ? 1 : 0, 1);
            int parameters = method.group(2).isEmpty() ? 0 : method.group(2).split(",").length;
            Due.due(head + " has " + parameters + " parameters", parameters <= MOST_PARAMETERS ? 1 : 0, 1);
        }
        Due.due(methods + " methods are found", methods > 60 ? 1 : 0, 1);
    }
}
