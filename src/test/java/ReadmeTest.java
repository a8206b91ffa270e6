import java.io.IOException;
import java.lang.reflect.Method;
import java.lang.reflect.Modifier;
import java.nio.charset.StandardCharsets;
import java.nio.file.Files;
import java.nio.file.Path;
import java.util.regex.Matcher;
import java.util.regex.Pattern;

/** What README.md says: each call of its example answers so, and its table tells all calls. Its argument is the class. */
public final class ReadmeTest {
    private static final Pattern CALL =
        Pattern.compile("coach\\.(\\w+)\\(([^)]*)\\);(?:\\s*// (\\S+?)(?::.*)?)?");

    public static void main(String[] args) throws IOException {
        Path root = Path.of(args[0]).toAbsolutePath().getParent().getParent().getParent().getParent();
        String readme = Files.readString(root.resolve("README.md"), StandardCharsets.UTF_8);
        example(readme);
        for (Method method : TypingCoach.class.getDeclaredMethods()) {
            if (Modifier.isPublic(method.getModifiers())) {
                row(readme, method);
            }
        }
        Checks.due("README tells the limit of calls", readme.contains("at most 512 calls"), true);
        Checks.finish();
    }

    private static void example(String readme) {
        int begin = readme.indexOf("```java\n") + "```java\n".length();
        String[] lines = readme.substring(begin, readme.indexOf("```", begin)).split("\n");
        Checks.due("the first line", lines[0], "TypingCoach coach = new TypingCoach();");
        StringBuilder script = new StringBuilder();
        for (int k = 1; k < lines.length; k++) {
            Matcher call = CALL.matcher(lines[k]);
            Checks.due("it is a call with an answer: " + lines[k], call.matches(), true);
            if (call.matches()) {
                String arguments = call.group(2).replace("TypingCoach.DOUBLED", "0").replace(", ", " ");
                script.append(call.group(1)).append(' ').append(arguments);
                script.append(call.group(3) == null ? "; " : " = " + call.group(3) + "; ");
            }
        }
        Script.check("the example of README.md", script.toString());
    }

    /** One row tells the call with as many arguments, and the exceptions of its throws clause in their order. */
    private static void row(String readme, Method method) {
        Matcher row = Pattern.compile("^\\| `" + method.getName() + "\\(([^)]*)\\)` \\| [^|]+\\|([^|]*)\\|$", Pattern.MULTILINE)
            .matcher(readme);
        Checks.due("README has a row of " + method.getName(), row.find(), true);
        int arguments = row.group(1).isEmpty() ? 0 : row.group(1).split(", ").length;
        Checks.due("arguments of " + method.getName(), arguments, method.getParameterCount());
        StringBuilder thrown = new StringBuilder();
        Matcher name = Pattern.compile("\\w+Exception").matcher(row.group(2));
        while (name.find()) {
            thrown.append(name.group()).append(' ');
        }
        StringBuilder due = new StringBuilder();
        for (Class<?> exception : method.getExceptionTypes()) {
            due.append(exception.getSimpleName()).append(' ');
        }
        Checks.due("exceptions of " + method.getName(), thrown.toString(), due.toString());
    }
}
