/** Promises 6 to 15: wanting, drills, strokes, going back, speed and the end of a lesson. */
public final class LessonTest {
    public static void main(String[] args) {
        wanting();
        drills();
        drillsOfSlowPairs();
        positions();
        kindsOfErrors();
        doubledAndSwappedAtTheEdges();
        olderLessonsLeaveNothing();
        goingBack();
        speeds();
        ends();
        Checks.finish();
    }

    private static void wanting() {
        TypingCoach coach = new TypingCoach();
        for (int k = 0; k < 40; k++) {
            Checks.due("wanted", coach.wanted(), k);
            Checks.due("want", coach.want((k * 7) % 26), k + 1);
        }
        Checks.due("wanted", coach.wanted(), 40);
        for (int k = 0; k < 40; k++) {
            Checks.due("wantedAt(" + k + ")", coach.wantedAt(k), (k * 7) % 26);
        }
        Checks.dueThrow("want beyond 40", Checks.STATE, () -> coach.want(0));
        Checks.dueThrow("want 26 beyond 40", Checks.INDEX, () -> coach.want(26));
        Checks.dueThrow("wantedAt(40)", Checks.INDEX, () -> coach.wantedAt(40));
        coach.stroke(0, 1);
        Checks.dueThrow("want when one is typed", Checks.STATE, () -> coach.want(0));
    }

    private static void drills() {
        TypingCoach coach = new TypingCoach();
        Checks.due("drill(1)", coach.drill(1), 1);
        Checks.due("wantedAt(0)", coach.wantedAt(0), 0);
        // A drill begins with the weakest letter, whatever was wanted before it.
        Checks.due("drill(3)", coach.drill(3), 3);
        Checks.due("wantedAt(1)", coach.wantedAt(1), 0);
        Checks.due("wantedAt(2)", coach.wantedAt(2), 1);
        Checks.due("wantedAt(3)", coach.wantedAt(3), 0);
        Checks.due("drill(40)", coach.drill(40), 36);
        Checks.due("wanted", coach.wanted(), 40);
        Checks.due("drill of a full lesson", coach.drill(1), 0);
        TypingCoach whole = new TypingCoach();
        Checks.due("drill(40)", whole.drill(40), 40);
        TypingCoach weak = new TypingCoach();
        Checks.fail(weak, 2, 25, 1);
        weak.drill(2);
        Checks.due("the weakest first", weak.wantedAt(1), 2);
        Checks.due("the lowest then", weak.wantedAt(2), 0);
    }

    private static void drillsOfSlowPairs() {
        TypingCoach coach = new TypingCoach();
        int[] wanted = {0, 0, 3, 2, 1, 0, 7};
        int[] millis = {400, 5000, 900, 900, 900, 800, 5000};
        for (int k = 0; k < wanted.length; k++) {
            coach.want(wanted[k]);
            coach.stroke(wanted[k], millis[k]);
        }
        coach.end();
        // The pair of 0 with itself and the pair of 0 and 7, which is not in, are the slowest ones.
        Checks.due("weakest", coach.weakest(), 0);
        Checks.due("drill(7)", coach.drill(7), 7);
        int[] due = {0, 3, 2, 1, 0, 3, 2};
        for (int k = 0; k < due.length; k++) {
            Checks.due("wantedAt(" + k + ") of the drill", coach.wantedAt(k), due[k]);
        }
    }

    private static void positions() {
        TypingCoach coach = new TypingCoach();
        coach.want(0);
        coach.want(1);
        Checks.due("position", coach.position(), 0);
        Checks.due("right stroke", coach.stroke(0, 5000), -1);
        Checks.due("position", coach.position(), 1);
        Checks.due("wrong stroke", coach.stroke(20, 1), 4);
        Checks.due("position", coach.position(), 2);
        Checks.dueThrow("stroke behind the last", Checks.STATE, () -> coach.stroke(0, 1));
        coach.want(2);
        Checks.due("position", coach.position(), 2);
        Checks.due("right stroke", coach.stroke(2, 1), -1);
        Checks.due("position", coach.position(), 3);
    }

    private static void kindsOfErrors() {
        // Each letter that is typed fits its kind and the kinds behind it that can be fit together.
        Checks.due("doubled and swapped and beside", kindAtOne(1, 0, 1, 1), 0);
        Checks.due("doubled by a wrong stroke", kindAtOne(9, 0, 5, 9), 0);
        Checks.due("swapped and beside", kindAtOne(3, 0, 1, 1), 1);
        Checks.due("swapped and mirrored", kindAtOne(3, 0, 9, 9), 1);
        Checks.due("beside", kindAtOne(3, 0, 5, 11), 2);
        Checks.due("beside and mirrored", kindAtOne(3, 4, 7, 5), 2);
        Checks.due("mirrored", kindAtOne(3, 0, 5, 9), 3);
        Checks.due("other", kindAtOne(3, 0, 5, 19), 4);
        Checks.due("right", kindAtOne(0, 0, 0, 0), -1);
        TypingCoach coach = new TypingCoach();
        coach.put(19, 9, 0);
        coach.want(0);
        Checks.due("mirrored on a new board", coach.stroke(19, 1), 3);
    }

    /** The answer for the letter typed at the position 1, for this wanted one and the next. */
    private static int kindAtOne(int typedBefore, int wanted, int next, int typed) {
        TypingCoach coach = new TypingCoach();
        coach.want(25);
        coach.want(wanted);
        coach.want(next);
        coach.stroke(typedBefore, 10);
        return coach.stroke(typed, 10);
    }

    private static void doubledAndSwappedAtTheEdges() {
        TypingCoach coach = new TypingCoach();
        coach.want(0);
        coach.want(25);
        Checks.due("no stroke before the first", coach.stroke(7, 1), 4);
        Checks.due("the same again", coach.stroke(7, 1), 0);
        coach.back(1);
        Checks.due("no stroke at this position counts", coach.stroke(7, 1), 0);
        coach.back(1);
        coach.back(1);
        Checks.due("again at the first", coach.stroke(7, 1), 4);
        coach.back(1);
        coach.stroke(8, 1);
        Checks.due("only the latest one counts", coach.stroke(7, 1), 4);
        coach.back(1);
        Checks.due("the latest one", coach.stroke(8, 1), 0);
        TypingCoach last = new TypingCoach();
        last.want(0);
        Checks.due("none is wanted next", last.stroke(25, 1), 4);
        last.back(1);
        last.want(25);
        Checks.due("now it is", last.stroke(25, 1), 1);
        TypingCoach right = new TypingCoach();
        right.want(6);
        right.want(6);
        right.want(0);
        right.stroke(6, 1);
        Checks.due("the same letter twice is right", right.stroke(6, 1), -1);
        Checks.due("doubled by a right stroke", right.stroke(6, 1), 0);
    }

    private static void olderLessonsLeaveNothing() {
        TypingCoach coach = new TypingCoach();
        coach.want(0);
        coach.want(8);
        coach.stroke(7, 1);
        coach.stroke(8, 1);
        coach.back(1);
        coach.end();
        Checks.due("wanted", coach.wanted(), 0);
        Checks.due("position", coach.position(), 0);
        Checks.due("mended", coach.mended(), 0);
        Checks.due("speed", coach.speed(), 0);
        Checks.dueThrow("stroke", Checks.STATE, () -> coach.stroke(0, 1));
        Checks.dueThrow("wantedAt(0)", Checks.INDEX, () -> coach.wantedAt(0));
        coach.want(0);
        Checks.due("neither doubled nor swapped", coach.stroke(8, 1), 4);
        Checks.due("no pair with the letter before", coach.pairTime(8, 0), 400);
        coach.want(1);
        coach.stroke(1, 59);
        Checks.due("speed", coach.speed(), 1000);
    }

    private static void goingBack() {
        TypingCoach coach = new TypingCoach();
        for (int letter = 0; letter < 3; letter++) {
            coach.want(letter);
        }
        coach.stroke(0, 100);
        coach.stroke(20, 100);
        coach.stroke(2, 100);
        int time = coach.time(2);
        Checks.due("back", coach.back(5000), 2);
        Checks.due("back", coach.back(1), 1);
        Checks.due("position", coach.position(), 1);
        Checks.due("mended", coach.mended(), 2);
        Checks.due("figures stay: count", coach.count(2), 1);
        Checks.due("figures stay: time", coach.time(2), time);
        Checks.due("figures stay: share", coach.share(1), 1250);
        Checks.due("errors stay", coach.errors(4), 1);
        Checks.due("strokes stay", coach.strokes(), 3);
        Checks.due("right stroke", coach.stroke(1, 100), -1);
        Checks.due("it counts again", coach.count(1), 2);
        Checks.due("strokes", coach.strokes(), 4);
        Checks.due("mended stay so", coach.mended(), 2);
        Checks.due("back", coach.back(7), 1);
        Checks.due("mended, the same position again", coach.mended(), 3);
        Checks.due("back", coach.back(7), 0);
        Checks.due("mended", coach.mended(), 4);
        Checks.dueThrow("back at 0", Checks.STATE, () -> coach.back(1));
        Checks.due("wanted", coach.wanted(), 3);
    }

    private static void speeds() {
        TypingCoach coach = new TypingCoach();
        for (int letter = 0; letter < 4; letter++) {
            coach.want(letter);
        }
        Checks.due("speed without time", coach.speed(), 0);
        coach.stroke(0, 7);
        Checks.due("speed", coach.speed(), 8571);
        coach.stroke(20, 3);
        Checks.due("a wrong stroke has time only", coach.speed(), 6000);
        coach.stroke(2, 10);
        Checks.due("speed", coach.speed(), 6000);
        coach.back(5);
        Checks.due("a mended stroke is not right", coach.speed(), 2400);
        coach.stroke(2, 5);
        Checks.due("typed again", coach.speed(), 4000);
        coach.back(10);
        coach.stroke(9, 10);
        Checks.due("typed again, wrong", coach.speed(), 1200);
        coach.back(1);
        coach.back(1);
        coach.back(1);
        Checks.due("all are mended", coach.speed(), 0);
        TypingCoach fast = new TypingCoach();
        fast.want(0);
        fast.stroke(0, 1);
        Checks.due("a lesson of a millisecond", fast.speed(), 60000);
        fast.end();
        for (int k = 0; k < 40; k++) {
            fast.want(0);
            fast.stroke(0, 1);
        }
        Checks.due("the greatest speed", fast.speed(), 60000);
        TypingCoach slow = new TypingCoach();
        Checks.practise(slow, 0, 5000, 13);
        Checks.due("the least speed of right strokes", slow.speed(), 12);
    }

    private static void ends() {
        TypingCoach coach = new TypingCoach();
        for (int k = 0; k < 100; k++) {
            Checks.due("lessons", coach.lessons(), k);
            Checks.practise(coach, 0, 400 + k, 1);
            Checks.due("end", coach.end(), -1);
        }
        Checks.due("lessons", coach.lessons(), 100);
        Checks.practise(coach, 0, 1, 2);
        Checks.dueThrow("end of the lesson 101", Checks.STATE, coach::end);
        Checks.due("position", coach.position(), 2);
        for (int k = 0; k < 100; k++) {
            Checks.due("speedOf(" + k + ")", coach.speedOf(k), 60000 / (400 + k));
        }
    }
}
