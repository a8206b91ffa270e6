import java.lang.reflect.Constructor;
import java.lang.reflect.Field;
import java.lang.reflect.Method;
import java.lang.reflect.Modifier;
import java.util.Arrays;
import java.util.List;
import java.util.Set;
import java.util.TreeSet;

/** The face of the document, no more and no less, with its constants and throws clauses. */
public final class FaceTest {
    private static final String I = "IndexOutOfBoundsException";
    private static final String A = "IllegalArgumentException";
    private static final String S = "IllegalStateException";

    private static final List<String> FACE = List.of(
        "int put(int,int,int) " + I, "int finger(int) " + I, "boolean areBeside(int,int) " + I,
        "int mirror(int) " + I, "int want(int) " + I + " " + S, "int drill(int) " + A, "int wanted()",
        "int wantedAt(int) " + I, "int position()", "int stroke(int,int) " + I + " " + A + " " + S,
        "int back(int) " + A + " " + S, "int speed()", "int mended()", "int end() " + S, "int count(int) " + I,
        "int time(int) " + I, "int share(int) " + I, "int pairTime(int,int) " + I, "int errors(int) " + A,
        "int errorsOf(int) " + A, "void wish(int,int) " + A, "boolean isIn(int) " + I, "boolean isGood(int) " + I,
        "int weakest()", "int lessons()", "int speedOf(int) " + I, "int falls()", "int endDay()", "int strokes()");

    public static void main(String[] args) throws IllegalAccessException {
        Class<TypingCoach> face = TypingCoach.class;
        Checks.due("modifiers", face.getModifiers(), Modifier.PUBLIC | Modifier.FINAL);
        constants(face);
        methods(face);
        Constructor<?>[] constructors = face.getDeclaredConstructors();
        Checks.due("constructors", constructors.length, 1);
        Checks.due("constructor", constructors[0].toString(), "public TypingCoach()");
        Checks.finish();
    }

    private static void constants(Class<?> face) throws IllegalAccessException {
        Set<String> open = new TreeSet<>();
        for (Field field : face.getDeclaredFields()) {
            if (!Modifier.isPrivate(field.getModifiers())) {
                int constant = Modifier.PUBLIC | Modifier.STATIC | Modifier.FINAL;
                Checks.due(field.getName() + " is a constant", field.getModifiers(), constant);
                open.add(field.getName() + "=" + field.getInt(null));
            }
        }
        Checks.due("constants", open.toString(), "[BESIDE=2, DOUBLED=0, MIRRORED=3, NONE=-1, OTHER=4, SWAPPED=1]");
    }

    private static void methods(Class<?> face) {
        Set<String> open = new TreeSet<>();
        Set<String> names = new TreeSet<>();
        for (Method method : face.getDeclaredMethods()) {
            if (!Modifier.isPrivate(method.getModifiers())) {
                Checks.due(method.getName() + " is public", method.getModifiers(), Modifier.PUBLIC);
                open.add(told(method));
                names.add(method.getName());
            }
        }
        Checks.due("methods", open.toString(), new TreeSet<>(FACE).toString());
        for (Method method : face.getDeclaredMethods()) {
            if (Modifier.isPrivate(method.getModifiers())) {
                Checks.due(method.getName() + " names a public method", names.contains(method.getName()), false);
            }
        }
    }

    private static String told(Method method) {
        StringBuilder text = new StringBuilder();
        text.append(method.getReturnType().getName()).append(' ').append(method.getName());
        text.append(Arrays.toString(method.getParameterTypes()).replace("[", "(").replace("]", ")").replace(" ", ""));
        for (Class<?> thrown : method.getExceptionTypes()) {
            text.append(' ').append(thrown.getSimpleName());
        }
        return text.toString();
    }
}
