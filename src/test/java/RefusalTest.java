import java.util.ArrayList;
import java.util.List;

/**
 * "If several exceptions apply, the first one of the throws clause is thrown. A call that throws changes nothing."
 * Each call that is refused is made after each of some histories, and every answer afterwards is compared with the
 * answer of a coach on which the refused call was not made: those of the calls that only tell, and those of
 * strokes, going back, drills, puts, wishes and ends that go on from there.
 */
public final class RefusalTest {
    private static final int[] NO_LETTERS = {-1, 26, Integer.MIN_VALUE, Integer.MAX_VALUE};
    private static final int[] NO_COLUMNS = {-1, 10, Integer.MIN_VALUE, Integer.MAX_VALUE};
    private static final int[] NO_ROWS = {-1, 3, Integer.MIN_VALUE, Integer.MAX_VALUE};
    private static final int[] NO_MILLIS = {0, -1, 5001, Integer.MIN_VALUE, Integer.MAX_VALUE};
    private static final int[] NO_SHARES = {-1, 10001, Integer.MIN_VALUE, Integer.MAX_VALUE};

    private static final List<Script> GOING_ON = goingOn();

    public static void main(String[] args) {
        String someTyped = "want 7; want 0; want 9; stroke 25 40; stroke 7 60; back 5; ";
        String full = "want 3; want 4; ".repeat(20);
        String fullAndTyped = full + "stroke 3 11; stroke 12 13; ".repeat(20);
        refusals("a new object", "", "0", "0", "stroke back");
        refusals("letters are wanted", "want 0; want 25; ", "2", "0", "back");
        refusals("strokes are typed and mended", someTyped, "3", "0", "");
        refusals("all wanted letters are typed", "want 7; want 0; stroke 7 90; stroke 9 30; ", "2", "0", "stroke");
        refusals("gone back to the first", "want 7; want 0; stroke 6 90; stroke 9 30; back 1; back 2; ", "2", "0", "back");
        refusals("40 letters are wanted", full, "40", "0", "want back");
        refusals("40 letters are typed", fullAndTyped, "40", "0", "want stroke");
        refusals("a lesson has ended", someTyped + "end; ", "0", "1", "stroke back");
        refusals("a day has ended", someTyped + "endDay; ", "3", "0", "");
        refusals("letters have moved", "put 0 9 2; put 1 5 1; put 25 0 0; " + someTyped, "3", "0", "");
        // Of these one letter is good, one only too slow, one only too wrong, so that no wish can change unseen.
        refusals("a wish was made", Script.typed(5, "rrw", 1) + Script.typed(6, "rrr", 5000) + Script.typed(7, "www", 1)
            + "wish 300 1250; isGood 5 = true; isGood 6 = false; isGood 7 = false; ", "9", "0", "stroke");
        refusals("letters will go out", Script.letInUpTo(6) + Script.typed(4, "wwwwwww", 9), "7", "3", "stroke");
        refusals("a letter will come in", Script.letInUpTo(4) + Script.thrice(4, 4), "3", "1", "stroke");
        refusals("all letters are in", Script.letInUpTo(25) + "want 25; want 1; stroke 24 900; ", "2", "22", "");
        String hundred = "want 0; stroke 0 9; end; want 0; stroke 0 99; end; " + "end; ".repeat(98);
        refusals("100 lessons have ended", hundred, "0", "100", "stroke back end");
        refusals("100 lessons, and one goes on", hundred + "want 7; want 6; stroke 5 100; stroke 6 1; back 2; ", "2", "100", "end");
        refusals("100 lessons, and a letter would go out", Script.letInUpTo(4) + "end; ".repeat(99)
            + Script.typed(4, "wwwwwww", 9), "7", "100", "stroke end");
        refusals("100 lessons, and a letter would come in", "wish 5000 10000; " + "end; ".repeat(100) + Script.thrice(0, 3),
            "12", "100", "stroke end");
        Checks.finish();
    }

    /** The words at last name the calls that the state refuses, whatever their arguments are. */
    private static void refusals(String told, String history, String wanted, String lessons, String refusedByState) {
        Script before = Script.of(history);
        Script.check(told, history + "wanted = " + wanted + "; lessons = " + lessons);
        List<String> due = answersAfter(before, Script.of(""));
        List<String> calls = new ArrayList<>();
        addBoard(calls);
        addFigures(calls);
        addLessons(calls, Integer.parseInt(wanted), Integer.parseInt(lessons));
        addByState(calls, refusedByState);
        addCallsThatChangeNothing(calls, wanted.equals("40"));
        for (String call : calls) {
            Script.check(told + ", then " + call, history + call);
            List<String> got = answersAfter(before, Script.of(call));
            Checks.due(told + ", the first other answer after " + call, firstOther(got, due), "none");
        }
    }

    /** These are not refused, but they change as little. */
    private static void addCallsThatChangeNothing(List<String> calls, boolean isFull) {
        calls.add("put 13 3 1 = 13");
        if (isFull) {
            calls.add("drill 1 = 0");
            calls.add("drill 40 = 0");
        }
        for (String call : "wanted position speed mended weakest lessons falls strokes".split(" ")) {
            calls.add(call);
        }
        for (String call : "finger mirror count time share isIn isGood".split(" ")) {
            calls.add(call + " 4");
        }
        calls.add("areBeside 0 1");
        calls.add("pairTime 7 0");
        calls.add("errors 3");
        calls.add("errorsOf 7");
    }

    private static String firstOther(List<String> got, List<String> due) {
        for (int k = 0; k < due.size(); k++) {
            if (!got.get(k).equals(due.get(k))) {
                return got.get(k) + " for " + due.get(k);
            }
        }
        return "none";
    }

    private static void addBoard(List<String> calls) {
        for (int bad : NO_LETTERS) {
            calls.add("put " + bad + " 9 2 = Index");
            calls.add("put " + bad + " 10 3 = Index");
            calls.add("finger " + bad + " = Index");
            calls.add("areBeside " + bad + " 0 = Index");
            calls.add("areBeside 0 " + bad + " = Index");
            calls.add("areBeside " + bad + " " + bad + " = Index");
            calls.add("mirror " + bad + " = Index");
        }
        for (int bad : NO_COLUMNS) {
            calls.add("put 7 " + bad + " 1 = Index");
        }
        for (int bad : NO_ROWS) {
            calls.add("put 7 0 " + bad + " = Index");
        }
        calls.add("put 7 -1 3 = Index");
        calls.add("put 7 10 -1 = Index");
    }

    private static void addFigures(List<String> calls) {
        for (int bad : NO_LETTERS) {
            for (String call : new String[] {"count", "time", "share", "isIn", "isGood"}) {
                calls.add(call + " " + bad + " = Index");
            }
            calls.add("pairTime " + bad + " 0 = Index");
            calls.add("pairTime 1 " + bad + " = Index");
            calls.add("pairTime " + bad + " " + bad + " = Index");
        }
        for (int bad : new int[] {-1, 5, Integer.MIN_VALUE, Integer.MAX_VALUE}) {
            calls.add("errors " + bad + " = Argument");
        }
        for (int bad : new int[] {-1, 8, Integer.MIN_VALUE, Integer.MAX_VALUE}) {
            calls.add("errorsOf " + bad + " = Argument");
        }
        for (int bad : NO_MILLIS) {
            calls.add("wish " + bad + " 0 = Argument");
            calls.add("wish " + bad + " 10000 = Argument");
        }
        for (int bad : NO_SHARES) {
            calls.add("wish 1 " + bad + " = Argument");
            calls.add("wish 5000 " + bad + " = Argument");
        }
        calls.add("wish 0 10001 = Argument");
    }

    /** What is refused in each state; no such letter comes first, then milliseconds that are out of range. */
    private static void addLessons(List<String> calls, int wanted, int lessons) {
        for (int bad : NO_LETTERS) {
            calls.add("want " + bad + " = Index");
            calls.add("stroke " + bad + " 1 = Index");
            calls.add("stroke " + bad + " 0 = Index");
            calls.add("stroke " + bad + " 5001 = Index");
        }
        for (int bad : NO_MILLIS) {
            calls.add("stroke 0 " + bad + " = Argument");
            calls.add("stroke 25 " + bad + " = Argument");
            calls.add("back " + bad + " = Argument");
        }
        for (int bad : new int[] {0, -1, 41, Integer.MIN_VALUE, Integer.MAX_VALUE}) {
            calls.add("drill " + bad + " = Argument");
        }
        for (int bad : new int[] {-1, wanted, wanted + 1, 40, 41, Integer.MIN_VALUE, Integer.MAX_VALUE}) {
            calls.add("wantedAt " + bad + " = Index");
        }
        for (int bad : new int[] {-1, lessons, lessons + 1, 100, 101, Integer.MIN_VALUE, Integer.MAX_VALUE}) {
            calls.add("speedOf " + bad + " = Index");
        }
    }

    private static void addByState(List<String> calls, String refused) {
        if (refused.contains("want")) {
            calls.add("want 0 = State");
            calls.add("want 25 = State");
        }
        if (refused.contains("stroke")) {
            calls.add("stroke 0 1 = State");
            calls.add("stroke 7 5000 = State");
            calls.add("stroke 25 250 = State");
        }
        if (refused.contains("back")) {
            calls.add("back 1 = State");
            calls.add("back 5000 = State");
        }
        if (refused.contains("end")) {
            calls.add("end = State");
        }
    }

    /** Every answer after these calls, each on a coach that has not made more calls than the document allows. */
    private static List<String> answersAfter(Script history, Script refused) {
        Script whole = history.and(refused);
        List<String> answers = whole.told();
        for (Script script : GOING_ON) {
            answers.addAll(script.answersAfter(whole));
        }
        return answers;
    }

    /** Calls that show what no call tells: the strokes before, the lesson's time, empty places, wishes. */
    private static List<Script> goingOn() {
        List<Script> scripts = new ArrayList<>();
        for (int letter = 0; letter < 26; letter++) {
            scripts.add(Script.of("stroke " + letter + " 7; stroke " + letter + " 7; speed"));
            scripts.add(Script.of("want 12; stroke " + letter + " 7; back 3; speed; mended; stroke " + letter + " 1; speed"));
        }
        scripts.add(Script.of("drill 40; " + wantedOnes() + "endDay; strokes; count 0; count 4; count 25"));
        scripts.add(Script.of("end; lessons; falls; isIn 4; isIn 5; isIn 6; isIn 25; count 4; share 4; time 4; speed; want 0; stroke 25 3; "
            + "speed; end; isIn 4; drill 3; " + "wantedAt 0; wantedAt 1; wantedAt 2; speedOf 0; speedOf 1"));
        StringBuilder round = new StringBuilder();
        for (int place = 0; place < 30; place++) {
            round.append("put 3 ").append(place % 10).append(' ').append(place / 10).append("; ");
        }
        scripts.add(Script.of(round.toString()));
        scripts.add(Script.of("wish 5000 10000; isGood 0; isGood 4; isGood 5; isGood 25; end; endDay; end; weakest"));
        return scripts;
    }

    private static String wantedOnes() {
        StringBuilder text = new StringBuilder("wanted; ");
        for (int place = 0; place < 40; place++) {
            text.append("wantedAt ").append(place).append("; ");
        }
        return text.toString();
    }
}
