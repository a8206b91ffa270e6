import java.util.ArrayList;
import java.util.List;

/**
 * Each call that changes something changes what the document says, and no other answer: every answer ahead of the
 * call is compared with every answer behind it, and just the ones that are due may be others.
 */
public final class ChangesTest {
    /** Two lessons have ended, of the speeds 150 and 66; 4 was let in; the third one goes on, one stroke mended. */
    private static final String HISTORY = "put 0 9 2; wish 5000 10000; " + Script.thrice(0, 3) + "end = 4; "
        + "want 4; want 9; want 3; stroke 25 800 = OTHER; stroke 9 100; end = NONE; "
        + "want 7; want 9; want 7; stroke 7 300; stroke 9 300; back 100; ";
    /** What the end of that third lesson changes. */
    private static final String ENDED = "wanted = 0; position = 0; speed = 0; mended = 0; lessons = 3; falls = 0; "
        + "wantedAt 0 = Index; wantedAt 1 = Index; wantedAt 2 = Index; speedOf 2 = 85";
    /** What the end of that day changes. */
    private static final String LESS = "strokes = 0; count 0 = 1; count 1 = 1; count 2 = 1; count 3 = 1; count 4 = 0; "
        + "count 7 = 0; count 9 = 1; isGood 0 = false; isGood 1 = false; isGood 2 = false; isGood 3 = false";

    public static void main(String[] args) {
        board();
        wanting();
        strokes();
        goingBack();
        ends();
        lettersOutAndIn();
        wishes();
        days();
        errorsOfAllKindsAndFingers();
        Checks.finish();
    }

    private static void board() {
        changes("put: to an empty place", HISTORY, "put 0 0 0 = NONE",
            "finger 0 = 0; mirror 0 = 9; mirror 9 = 0; mirror 20 = NONE; "
                + "areBeside 0 1 = true; areBeside 0 10 = true; areBeside 0 11 = true; "
                + "areBeside 0 18 = false; areBeside 0 19 = false; areBeside 1 0 = true; areBeside 10 0 = true; "
                + "areBeside 11 0 = true; areBeside 18 0 = false; areBeside 19 0 = false");
        changes("put: two letters of one column", HISTORY, "put 23 3 1 = 13",
            "mirror 13 = NONE; mirror 16 = 23; mirror 23 = 16; "
                + "areBeside 2 13 = false; areBeside 2 23 = true; areBeside 3 13 = false; areBeside 3 23 = true; "
                + "areBeside 4 13 = false; areBeside 4 23 = true; areBeside 13 2 = false; areBeside 13 3 = false; "
                + "areBeside 13 4 = false; areBeside 23 2 = true; areBeside 23 3 = true; areBeside 23 4 = true");
        changes("put: where it is", HISTORY, "put 0 9 2 = 0", "");
    }

    private static void wanting() {
        changes("want", HISTORY, "want 25 = 4", "wanted = 4; wantedAt 3 = 25");
        changes("want: behind the last stroke", HISTORY + "stroke 9 1; stroke 7 1; ", "want 25 = 4", "wanted = 4; wantedAt 3 = 25");
        changes("want: in a new lesson", HISTORY + "end; ", "want 25 = 1", "wanted = 1; wantedAt 0 = 25");
        changes("drill", HISTORY, "drill 2 = 2", "wanted = 5; wantedAt 3 = 4; wantedAt 4 = 0");
        changes("drill: of a letter that is taken out", HISTORY + "end; " + Script.typed(4, "wwwwwww", 1) + "end; ",
            "drill 2 = 2", "wanted = 2; wantedAt 0 = 0; wantedAt 1 = 1");
        changes("drill: a full lesson", HISTORY + "drill 37; ", "drill 5 = 0", "");
    }

    private static void strokes() {
        changes("stroke: right", HISTORY, "stroke 9 500 = NONE",
            "position = 2; speed = 100; strokes = 17; count 9 = 3; time 9 = 363; isGood 9 = true; pairTime 7 9 = 406");
        changes("stroke: wrong", HISTORY, "stroke 7 500 = DOUBLED",
            "position = 2; speed = 50; strokes = 17; count 9 = 3; time 9 = 363; share 9 = 1250; isGood 9 = true; "
                + "pairTime 7 9 = 406; errors 0 = 1; errorsOf 7 = 1");
        changes("stroke: at the position 0", HISTORY + "back 1; ", "stroke 8 399 = BESIDE",
            "position = 1; strokes = 17; count 7 = 2; time 7 = 381; share 7 = 1250; errors 2 = 1; errorsOf 5 = 1");
        changes("stroke: of a letter that is in", HISTORY + "end; want 2; ", "stroke 7 1000 = MIRRORED",
            "position = 1; weakest = 2; strokes = 17; count 2 = 4; time 2 = 550; share 2 = 1250; errors 3 = 1; errorsOf 2 = 1");
    }

    private static void goingBack() {
        changes("back: a right stroke", HISTORY, "back 250 = 0", "position = 0; speed = 0; mended = 2");
        changes("back: a wrong stroke", HISTORY + "stroke 7 500; ", "back 300 = 1", "position = 1; speed = 40; mended = 2");
    }

    private static void ends() {
        changes("end", HISTORY, "end = NONE", ENDED);
        changes("end: of a lesson without strokes", HISTORY + "end; ", "end = NONE", "lessons = 4; falls = 1; speedOf 3 = 0");
        changes("end: as slow as the one ahead of it", HISTORY + "end; end; ", "end = NONE", "lessons = 5; falls = 0; speedOf 4 = 0");
        changes("end: just after the end of a day", HISTORY + "endDay; ", "end = NONE", ENDED);
    }

    private static void lettersOutAndIn() {
        String bad = HISTORY + "end; " + Script.typed(4, "wwwwwww", 1);
        StringBuilder begun = new StringBuilder("wanted = 0; position = 0; lessons = 4; wantedAt 0 = Index");
        for (int place = 1; place < 7; place++) {
            begun.append("; wantedAt ").append(place).append(" = Index");
        }
        changes("end: a letter is taken out", bad, "end = NONE",
            begun + "; weakest = 0; falls = 1; speedOf 3 = 0; count 4 = 0; time 4 = 400; share 4 = 0; isIn 4 = false; isGood 4 = false");
        changes("end: the day ahead of it left a count of 2", bad + "endDay; endDay; ", "end = NONE",
            begun + "; falls = 1; speedOf 3 = 0");
        changes("end: a letter is let in", HISTORY + "end; " + Script.thrice(4, 4), "end = 5",
            "wanted = 0; position = 0; speed = 0; lessons = 4; wantedAt 0 = Index; wantedAt 1 = Index; wantedAt 2 = Index; "
                + "speedOf 3 = 150; isIn 5 = true");
    }

    private static void wishes() {
        changes("wish", HISTORY, "wish 300 1000 = nothing", "isGood 0 = false; isGood 1 = false; isGood 2 = false; isGood 3 = false");
        changes("wish: the same again", HISTORY, "wish 5000 10000 = nothing", "");
    }

    private static void days() {
        changes("endDay", HISTORY, "endDay = 16", LESS);
        changes("endDay: between two lessons", HISTORY + "end; ", "endDay = 16", LESS);
        changes("endDay: of a day without strokes", HISTORY + "endDay; endDay; ", "endDay = 0", "");
    }

    private static void errorsOfAllKindsAndFingers() {
        String typed = HISTORY + "end; want 10; want 19; want 19; want 19; want 19; want 20; want 20; "
            + "stroke 5 9 = OTHER; stroke 5 9 = DOUBLED; stroke 10 9 = MIRRORED; stroke 18 9 = BESIDE; stroke 20 9 = SWAPPED; "
            + "stroke 3 9 = OTHER; stroke 0 9 = MIRRORED; want 11; want 12; want 15; want 17; want 18; "
            + "stroke 3 9; stroke 23 9; stroke 23 9; stroke 23 9; stroke 23 9; "
            + "errorsOf 0 = 3; errorsOf 1 = 1; errorsOf 2 = 1; errorsOf 3 = 1; errorsOf 4 = 1; errorsOf 5 = 1; errorsOf 6 = 1; errorsOf 7 = 4; ";
        changes("endDay: after errors of all kinds and fingers", typed, "endDay = 28", LESS + "; count 10 = 0; count 11 = 0; "
            + "count 12 = 0; count 15 = 0; count 17 = 0; count 18 = 0; count 19 = 2; count 20 = 1; isGood 19 = false");
        StringBuilder begun = new StringBuilder("wanted = 0; position = 0; lessons = 4; falls = 1; speedOf 3 = 0");
        for (int place = 0; place < 12; place++) {
            begun.append("; wantedAt ").append(place).append(" = Index");
        }
        changes("end: after errors of all kinds and fingers", typed, "end = NONE", begun.toString());
    }

    /** Makes the call after the history, and compares the answers that are others then with those that are due. */
    private static void changes(String told, String history, String call, String due) {
        Script.check(told, history + call);
        List<String> before = Script.of(history).told();
        List<String> behind = Script.of(history).and(Script.of(call)).told();
        List<String> got = new ArrayList<>();
        for (String answer : behind) {
            if (!before.contains(answer)) {
                got.add(answer);
            }
        }
        List<String> others = Script.of(due).dueAnswers();
        Checks.due(told + ": another answer, but not due", without(got, others), List.of());
        Checks.due(told + ": due, but no other answer", without(others, got), List.of());
    }

    private static List<String> without(List<String> all, List<String> some) {
        List<String> left = new ArrayList<>(all);
        left.removeAll(some);
        return left;
    }
}
