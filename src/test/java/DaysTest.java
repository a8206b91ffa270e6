/** Promises 26 to 30: lessons and their speeds, falls, days. */
public final class DaysTest {
    public static void main(String[] args) {
        lessonsAndSpeeds();
        falls();
        days();
        Checks.finish();
    }

    private static void lessonsAndSpeeds() {
        TypingCoach coach = new TypingCoach();
        Checks.dueThrow("speedOf(0)", Checks.INDEX, () -> coach.speedOf(0));
        coach.end();
        Checks.due("lessons", coach.lessons(), 1);
        Checks.due("speedOf(0)", coach.speedOf(0), 0);
        Checks.practise(coach, 0, 100, 2);
        coach.want(1);
        coach.stroke(25, 100);
        coach.back(100);
        coach.end();
        Checks.due("lessons", coach.lessons(), 2);
        Checks.due("speedOf(0)", coach.speedOf(0), 0);
        Checks.due("speedOf(1)", coach.speedOf(1), 300);
        for (int bad : new int[] {-1, 2, 100, Integer.MIN_VALUE, Integer.MAX_VALUE}) {
            Checks.dueThrow("speedOf", Checks.INDEX, () -> coach.speedOf(bad));
        }
    }

    private static void falls() {
        TypingCoach coach = new TypingCoach();
        int[] millis = {500, 600, 700, 700, 100, 200, 300, 400, 500, 400, 0, 0};
        int[] due = {0, 1, 2, 0, 0, 1, 2, 3, 4, 0, 1, 0};
        for (int k = 0; k < millis.length; k++) {
            if (millis[k] > 0) {
                Checks.practise(coach, 0, millis[k], 1);
            }
            Checks.due("falls while the lesson goes on", coach.falls(), k == 0 ? 0 : due[k - 1]);
            coach.end();
            Checks.due("falls after lesson " + k, coach.falls(), due[k]);
        }
        TypingCoach falling = new TypingCoach();
        for (int k = 0; k < 100; k++) {
            Checks.practise(falling, 0, 20 + k, 1);
            falling.end();
        }
        Checks.due("99 falls", falling.falls(), 99);
    }

    private static void days() {
        TypingCoach coach = new TypingCoach();
        Checks.due("endDay of nothing", coach.endDay(), 0);
        Checks.practise(coach, 0, 100, 7);
        Checks.fail(coach, 1, 25, 1);
        Checks.practise(coach, 25, 100, 2);
        coach.back(100);
        Checks.due("going back is no stroke", coach.strokes(), 10);
        coach.end();
        Checks.due("strokes of all lessons", coach.strokes(), 10);
        coach.want(2);
        coach.want(3);
        coach.stroke(2, 50);
        int time = coach.time(0);
        int share = coach.share(1);
        Checks.due("strokes", coach.strokes(), 11);
        Checks.due("endDay", coach.endDay(), 11);
        Checks.due("strokes", coach.strokes(), 0);
        Checks.due("count 7", coach.count(0), 3);
        Checks.due("count 1", coach.count(1), 0);
        Checks.due("count 0", coach.count(3), 0);
        Checks.due("count 2", coach.count(25), 1);
        Checks.due("times stay", coach.time(0), time);
        Checks.due("shares stay", coach.share(1), share);
        Checks.due("the lesson goes on: wanted", coach.wanted(), 2);
        Checks.due("the lesson goes on: position", coach.position(), 1);
        Checks.due("the lesson goes on: speed", coach.speed(), 1200);
        Checks.due("lessons", coach.lessons(), 1);
        Checks.due("stroke", coach.stroke(2, 50), 0);
        Checks.due("strokes of the new day", coach.strokes(), 1);
        Checks.due("endDay", coach.endDay(), 1);
        Checks.due("count 3", coach.count(0), 1);
        Checks.due("endDay", coach.endDay(), 0);
        Checks.due("count 1", coach.count(0), 0);
    }
}
