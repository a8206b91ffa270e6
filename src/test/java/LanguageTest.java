import java.io.IOException;
import java.nio.charset.StandardCharsets;
import java.nio.file.Files;
import java.nio.file.Path;
import java.util.regex.Matcher;
import java.util.regex.Pattern;

/** The rules of LANGUAGE.md that can be read off the text of the class. Its argument is the file of the class. */
public final class LanguageTest {
    private static final String[] RULED_OUT = {
        "->", "::", "\"\\s*\\+|\\+\\s*\"", "\\bfinally\\b", "\\bcatch\\b", "\\bsynchronized\\b", "\\bassert\\b",
        "^package\\b", "^import (?!java\\.util\\.Arrays;)", "Exact\\b", "\\bvar\\b", "\\bstatic\\s*\\{",
        "\\b(System|Thread|Runtime|Random|Object|Float|Double|Character)\\b", "\\bgetClass\\b", "\\bhashCode\\b",
        "\\btoString\\b", "[^\\x00-\\x7f]", "\\bextends\\b.*Exception", "Math\\.(?!abs|max|min)",
    };

    public static void main(String[] args) throws IOException {
        String text = Files.readString(Path.of(args[0]), StandardCharsets.ISO_8859_1);
        for (String sign : RULED_OUT) {
            Matcher found = Pattern.compile(sign, Pattern.MULTILINE).matcher(text);
            Checks.due("the first " + sign, found.find() ? found.group() : "none", "none");
        }
        Checks.due("classes are few", count(text, "\\b(class|record|enum|interface) [A-Z]") <= 12, true);
        Matcher thrown = Pattern.compile("throw ([^;]*);").matcher(text);
        while (thrown.find()) {
            Checks.due("throw " + thrown.group(1), thrown.group(1).matches("new \\w+Exception\\((\"[^\"]*\")?\\)"), true);
        }
        Checks.finish();
    }

    private static int count(String text, String sign) {
        return (int) Pattern.compile(sign).matcher(text).results().count();
    }
}
