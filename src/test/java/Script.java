import java.lang.reflect.InvocationTargetException;
import java.lang.reflect.Method;
import java.util.ArrayList;
import java.util.HashMap;
import java.util.List;
import java.util.Map;

/**
 * Calls told as text, made on a new coach: "want 0 = 1; stroke 0 5001 = Argument; position". Behind the = stands
 * the answer that is due, with the document's constants and Index, Argument, State for its exceptions; a call
 * without a = may answer anything, but it must not throw.
 */
final class Script {
    /** The document promises nothing of an object's later calls. */
    static final int MOST_CALLS = 512;

    private static final Map<String, Method> FACE = new HashMap<>();
    private static final Map<String, String> SHORT = Map.of(
        "Index", "IndexOutOfBoundsException", "Argument", "IllegalArgumentException",
        "State", "IllegalStateException", "NONE", "-1", "DOUBLED", "0", "SWAPPED", "1", "BESIDE", "2",
        "MIRRORED", "3", "OTHER", "4");

    static {
        for (Method method : TypingCoach.class.getDeclaredMethods()) {
            FACE.put(method.getName(), method);
        }
    }

    private static final Script TELLING = of(telling());

    /** One call; due is empty where any answer will do. */
    private record Call(String told, Method method, Object[] arguments, String due) {
        String answer(TypingCoach coach) {
            try {
                Object answer = method.invoke(coach, arguments);
                return answer == null ? "nothing" : answer.toString();
            } catch (InvocationTargetException e) {
                return e.getCause().getClass().getSimpleName();
            } catch (IllegalAccessException e) {
                throw new IllegalStateException(told, e);
            }
        }

        boolean isAnsweredBy(String answer) {
            return due.isEmpty() ? !answer.endsWith("Exception") : due.equals(answer);
        }
    }

    private final List<Call> calls;

    private Script(List<Call> calls) {
        this.calls = calls;
    }

    static Script of(String text) {
        List<Call> calls = new ArrayList<>();
        for (String told : text.split(";")) {
            if (!told.isBlank()) {
                calls.add(parsed(told.strip()));
            }
        }
        return new Script(calls);
    }

    private static Call parsed(String told) {
        String[] sides = told.split(" = ");
        String[] words = sides[0].split(" ");
        Object[] arguments = new Object[words.length - 1];
        for (int k = 0; k < arguments.length; k++) {
            arguments[k] = Integer.valueOf(words[k + 1]);
        }
        Method method = FACE.get(words[0]);
        if (method == null || method.getParameterCount() != arguments.length || sides.length > 2) {
            throw new IllegalArgumentException("no such call: " + told);
        }
        String due = sides.length < 2 ? "" : SHORT.getOrDefault(sides[1], sides[1]);
        return new Call(told, method, arguments, due);
    }

    /** Makes the calls on a new coach and compares each answer with the one that is due. */
    static void check(String sentence, String text) {
        Script script = of(text);
        TypingCoach coach = new TypingCoach();
        Checks.due(sentence + ": at most 512 calls", script.calls.size() <= MOST_CALLS, true);
        for (int k = 0; k < script.calls.size(); k++) {
            Call call = script.calls.get(k);
            String answer = call.answer(coach);
            Checks.due(sentence + ": call " + (k + 1) + ", " + call.told + ", with " + answer,
                call.isAnsweredBy(answer), true);
        }
    }

    /** Each call with its answer, on a new coach on which the calls of the history have been made first. */
    List<String> answersAfter(Script history) {
        if (history.size() + size() > MOST_CALLS) {
            throw new IllegalArgumentException("too many calls for one coach");
        }
        TypingCoach coach = new TypingCoach();
        for (Call call : history.calls) {
            call.answer(coach);
        }
        List<String> answers = new ArrayList<>();
        for (Call call : calls) {
            answers.add(call.told + " = " + call.answer(coach));
        }
        return answers;
    }

    /** What all calls that only tell answer after these calls, on as many new coaches as 512 calls each ask for. */
    List<String> told() {
        List<String> answers = new ArrayList<>();
        int step = Math.max(MOST_CALLS - size(), 1);
        for (int from = 0; from < TELLING.size(); from += step) {
            answers.addAll(TELLING.part(from, from + step).answersAfter(this));
        }
        return answers;
    }

    /** These calls with the answers that are due, in the form of told(). */
    List<String> dueAnswers() {
        List<String> answers = new ArrayList<>();
        for (Call call : calls) {
            answers.add(call.told.split(" = ")[0] + " = " + call.due);
        }
        return answers;
    }

    int size() {
        return calls.size();
    }

    /** The calls from one to ahead of another one, or to the last one. */
    Script part(int from, int to) {
        return new Script(calls.subList(from, Math.min(to, size())));
    }

    Script and(Script later) {
        List<Call> all = new ArrayList<>(calls);
        all.addAll(later.calls);
        return new Script(all);
    }

    // ---- texts that scripts are made of

    /** All calls that only tell, for all arguments that can be answered in some state. */
    private static String telling() {
        StringBuilder text = new StringBuilder("wanted; position; speed; mended; weakest; lessons; falls; strokes; ");
        for (int letter = 0; letter < 26; letter++) {
            for (String call : new String[] {"finger", "mirror", "count", "time", "share", "isIn", "isGood"}) {
                text.append(call).append(' ').append(letter).append("; ");
            }
            for (int other = 0; other < 26; other++) {
                text.append("areBeside ").append(letter).append(' ').append(other).append("; ");
                text.append("pairTime ").append(letter).append(' ').append(other).append("; ");
            }
        }
        for (int place = 0; place < 40; place++) {
            text.append("wantedAt ").append(place).append("; ");
        }
        for (int lesson = 0; lesson < 100; lesson++) {
            text.append("speedOf ").append(lesson).append("; ");
        }
        for (int number = 0; number < 8; number++) {
            text.append(number < 5 ? "errors " + number + "; " : "").append("errorsOf ").append(number).append("; ");
        }
        return text.toString();
    }

    /** Wants a letter and types it, right for each r and wrong for each w, after so many milliseconds. */
    static String typed(int letter, String strokes, int millis) {
        StringBuilder text = new StringBuilder();
        for (char sign : strokes.toCharArray()) {
            int stroke = sign == 'r' ? letter : (letter + 13) % 26;
            text.append("want ").append(letter).append("; stroke ").append(stroke).append(' ').append(millis);
            text.append("; ");
        }
        return text.toString();
    }

    /** Types each of these letters three times, so that it is good for a wish of 5000 and 10000. */
    static String thrice(int from, int to) {
        StringBuilder text = new StringBuilder();
        for (int letter = from; letter <= to; letter++) {
            text.append(typed(letter, "rrr", 400));
        }
        return text.toString();
    }

    /**
     * Lets in all letters up to this one, for a wish of 5000 and 10000. All but the last one are good then, and a
     * lesson without wanted letters goes on.
     */
    static String letInUpTo(int last) {
        StringBuilder text = new StringBuilder("wish 5000 10000; ");
        text.append(thrice(0, 3));
        for (int letter = 4; letter <= last; letter++) {
            text.append("end = ").append(letter).append("; ");
            text.append(letter < last ? thrice(letter, letter) : "");
        }
        return text.toString();
    }
}
