import java.io.IOException;
import java.lang.reflect.Field;
import java.lang.reflect.Method;
import java.lang.reflect.Modifier;
import java.nio.charset.StandardCharsets;
import java.nio.file.Files;
import java.nio.file.Path;
import java.util.regex.Matcher;
import java.util.regex.Pattern;

/** The rules of LANGUAGE.md that can be read off the text of the class and its members. Its argument is the file of the class. */
public final class LanguageTest {
    private static final String[] RULED_OUT = {
        "->", "::", "\"\\s*\\+|\\+\\s*\"", "\\bfinally\\b", "\\bcatch\\b", "\\bsynchronized\\b", "\\bassert\\b",
        "^package\\b", "^import (?!java\\.util\\.Arrays;)", "Exact\\b", "\\bvar\\b", "\\bstatic\\s*\\{",
        "\\b(System|Thread|Runtime|Random|Object|Float|Double|Character)\\b", "\\bgetClass\\b", "\\bhashCode\\b",
        "\\btoString\\b", "[^\\x00-\\x7f]", "\\bextends\\b.*Exception", "Math\\.(?!abs|max|min)",
    };

    public static void main(String[] args) throws IOException {
        String text = Files.readString(Path.of(args[0]), StandardCharsets.ISO_8859_1);
        for (String sign : RULED_OUT) {
            Matcher found = Pattern.compile(sign, Pattern.MULTILINE).matcher(text);
            Checks.due("the first " + sign, found.find() ? found.group() : "none", "none");
        }
        Checks.due("classes are few", count(text, "\\b(class|record|enum|interface) [A-Z]") <= 12, true);
        Matcher thrown = Pattern.compile("throw ([^;]*);").matcher(text);
        while (thrown.find()) {
            Checks.due("throw " + thrown.group(1), thrown.group(1).matches("new \\w+Exception\\((\"[^\"]*\")?\\)"), true);
        }
        lines(text);
        members(TypingCoach.class);
        for (Class<?> inner : TypingCoach.class.getDeclaredClasses()) {
            Checks.due(inner + " is static", Modifier.isStatic(inner.getModifiers()), true);
            Checks.due(inner + " is open", inner.getModifiers() & (Modifier.PUBLIC | Modifier.PROTECTED), 0);
            members(inner);
            for (Method method : inner.getDeclaredMethods()) {
                Checks.due(inner + " has a method of the face, " + method.getName(), isOfFace(method.getName()), false);
            }
        }
        Checks.finish();
    }

    /** Methods are short (none has an empty line in it), and rows are made by constructors alone. */
    private static void lines(String text) {
        int length = 0;
        for (String line : text.split("\n")) {
            length = line.isBlank() ? 0 : length + 1;
            Checks.due("sixty lines at most: " + line, length <= 60, true);
            boolean isMade = line.contains("new ") && !line.contains("throw new ");
            Checks.due("made by a constructor: " + line, isMade && !line.matches(" +(private final .*|values) = new .*"), false);
        }
    }

    private static void members(Class<?> part) {
        int fields = 0;
        for (Field field : part.getDeclaredFields()) {
            boolean isStatic = Modifier.isStatic(field.getModifiers());
            fields += isStatic ? 0 : 1;
            Checks.due(field + " is static, but not final", isStatic && !Modifier.isFinal(field.getModifiers()), false);
        }
        Checks.due(part + " has few fields", fields <= 20, true);
        for (Method method : part.getDeclaredMethods()) {
            Checks.due(method + " has few parameters", method.getParameterCount() <= 7, true);
            Checks.due(method + " is made by the compiler", method.isSynthetic(), false);
        }
    }

    private static boolean isOfFace(String name) {
        for (Method method : TypingCoach.class.getDeclaredMethods()) {
            if (Modifier.isPublic(method.getModifiers()) && method.getName().equals(name)) {
                return true;
            }
        }
        return false;
    }

    private static int count(String text, String sign) {
        return (int) Pattern.compile(sign).matcher(text).results().count();
    }
}
