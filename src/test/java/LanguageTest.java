import java.io.IOException;
import java.nio.file.Files;
import java.nio.file.Path;
import java.util.regex.Matcher;
import java.util.regex.Pattern;

/** What of LANGUAGE.md can be seen in the text of the class: words that it leaves out, and lengths. */
public final class LanguageTest {
    private static final String[] LEFT_OUT = {
        "import", "package", "throw", "throws", "try", "catch", "finally", "synchronized", "assert", "protected",
        "volatile", "native", "->", "::", "\\w+Exact", "hashCode", "toString", "Random", "Thread", "System\\.\\w*ime"};
    private static final int LONGEST_METHOD = 60;
    private static final int MOST_PARAMETERS = 7;

    private LanguageTest() {
    }

    public static void main(String[] args) throws IOException {
        Check check = new Check();
        String text = Files.readString(Path.of("src/main/java/BlockMover.java"));
        String code = text.replaceAll("(?s)/\\*.*?\\*/", "").replaceAll("//.*", "");
        for (String word : LEFT_OUT) {
            String whole = word.matches("\\W+") ? word : "\\b" + word + "\\b";
            check.due(word, Pattern.compile(whole).matcher(code).results().count(), 0);
        }
        check.due("static fields that are not final",
            Pattern.compile("static (?!final|class|int \\w+\\(|boolean \\w+\\()").matcher(code).results().count(), 0);
        lengths(check, code);
        check.end();
    }

    private static void lengths(Check check, String code) {
        Matcher head = Pattern.compile("(?m)^( +)\\S.*\\((.*)\\) \\{$").matcher(code);
        int methods = 0;
        while (head.find()) {
            int end = code.indexOf("\n" + head.group(1) + "}", head.end());
            long lines = code.substring(head.end(), end).lines().count();
            check.due("too long: " + head.group().strip(), lines > LONGEST_METHOD ? 1 : 0, 0);
            check.due("parameters: " + head.group().strip(), head.group(2).split(",").length > MOST_PARAMETERS ? 1 : 0, 0);
            methods++;
        }
        check.due("methods were found", methods > 20 ? 1 : 0, 1);
    }
}
