import java.nio.file.Files;
import java.nio.file.Path;
import java.util.regex.Matcher;
import java.util.regex.Pattern;

/** What LANGUAGE.md rules out and a look at the words can find. */
public final class LanguageTest {
    private static final String[] RULED_OUT = {
        "^import ", "^package ", "->", "::", "\\bcatch\\b", "\\bthrow\\b", "\\btry\\b", "\\bfinally\\b",
        "\\bassert\\b", "\\bsynchronized\\b", "\\binstanceof\\b", "\\bdouble\\b", "\\bfloat\\b",
        "Exact\\(", "\\bSystem\\.(?!arraycopy)", "\\bnull\\b", "\" *\\+|\\+ *\"", "^ *static *\\{",
        "\\bwhile \\(true\\)", "for \\(;;\\)", "\\[\\]\\[\\]\\[\\]", "[^\\x00-\\x7f]",
    };

    public static void main(String[] args) throws Exception {
        Check check = new Check("language");
        String source = Files.readString(Path.of("src/main/java/GreyByFriday.java"));
        String code = source.replaceAll("//[^\n]*", "").replaceAll("(?s)/\\*.*?\\*/", "");
        for (String pattern : RULED_OUT) {
            Matcher found = Pattern.compile(pattern, Pattern.MULTILINE).matcher(code);
            check.due("holds " + pattern, found.find() ? 1 : 0, 0);
        }
        int classes = code.split("\\bclass ").length - 1;
        check.due("classes", classes <= 12 ? 1 : 0, 1);
        check.end();
    }
}
