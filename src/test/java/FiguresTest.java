/** Promises 16 to 21: figures of letters and pairs, and errors. */
public final class FiguresTest {
    public static void main(String[] args) {
        figuresOfLetters();
        figuresAreOfTheWantedLetter();
        figuresOfPairs();
        errors();
        fingersAsTheyWere();
        Checks.finish();
    }

    private static void figuresOfLetters() {
        TypingCoach coach = new TypingCoach();
        int[] millis = {1, 5000, 123, 77, 4999, 2, 3, 1000};
        int time = 400;
        int share = 0;
        for (int k = 0; k < millis.length; k++) {
            boolean isWrong = k % 3 != 2;
            coach.want(10);
            coach.stroke(isWrong ? 25 : 10, millis[k]);
            time = (3 * time + millis[k]) / 4;
            share = (7 * share + (isWrong ? 10000 : 0)) / 8;
            Checks.due("count", coach.count(10), k + 1);
            Checks.due("time", coach.time(10), time);
            Checks.due("share", coach.share(10), share);
        }
        TypingCoach first = new TypingCoach();
        Checks.fail(first, 3, 25, 1);
        Checks.due("time of one stroke", first.time(3), 300);
        Checks.due("share of one error", first.share(3), 1250);
        Checks.fail(first, 3, 25, 1);
        Checks.due("time of two strokes", first.time(3), 225);
        Checks.due("share of two errors", first.share(3), 2343);
    }

    private static void figuresAreOfTheWantedLetter() {
        TypingCoach coach = new TypingCoach();
        Checks.fail(coach, 3, 25, 2);
        Checks.due("count of the typed letter", coach.count(25), 0);
        Checks.due("time of the typed letter", coach.time(25), 400);
        Checks.due("share of the typed letter", coach.share(25), 0);
        Checks.due("pair of the wanted letter", coach.pairTime(3, 3), 300);
        Checks.due("pair of the typed letter", coach.pairTime(25, 3), 400);
        Checks.due("pair of the typed letters", coach.pairTime(25, 25), 400);
    }

    private static void figuresOfPairs() {
        TypingCoach coach = new TypingCoach();
        coach.want(0);
        coach.want(25);
        coach.want(0);
        coach.stroke(0, 5000);
        coach.stroke(25, 5000);
        Checks.due("pairTime(0, 25)", coach.pairTime(0, 25), 1550);
        Checks.due("pairTime(25, 0)", coach.pairTime(25, 0), 400);
        coach.stroke(0, 2);
        Checks.due("pairTime(25, 0)", coach.pairTime(25, 0), 300);
        Checks.due("pairTime(0, 25)", coach.pairTime(0, 25), 1550);
        coach.back(1);
        coach.stroke(20, 1);
        Checks.due("a wrong stroke, typed again", coach.pairTime(25, 0), 225);
        Checks.due("pairTime(25, 20)", coach.pairTime(25, 20), 400);
        coach.end();
        coach.want(0);
        coach.stroke(0, 3000);
        Checks.due("no pair across lessons", coach.pairTime(0, 0), 400);
        Checks.due("pairs stay", coach.pairTime(0, 25), 1550);
    }

    private static void errors() {
        TypingCoach coach = new TypingCoach();
        coach.want(0);
        coach.want(4);
        coach.want(0);
        int[] typed = {0, 0, 1};
        for (int lesson = 1; lesson <= 2; lesson++) {
            for (int letter : typed) {
                coach.stroke(letter, 1);
            }
            Checks.due("errors(DOUBLED)", coach.errors(TypingCoach.DOUBLED), lesson);
            Checks.due("errors(SWAPPED)", coach.errors(TypingCoach.SWAPPED), 0);
            Checks.due("errors(BESIDE)", coach.errors(TypingCoach.BESIDE), lesson);
            Checks.due("errors(MIRRORED)", coach.errors(TypingCoach.MIRRORED), 0);
            Checks.due("errors(OTHER)", coach.errors(TypingCoach.OTHER), 0);
            Checks.due("errorsOf(3)", coach.errorsOf(3), lesson);
            Checks.due("errorsOf(0)", coach.errorsOf(0), lesson);
            Checks.due("errorsOf(1)", coach.errorsOf(1), 0);
            coach.end();
            coach.want(0);
            coach.want(4);
            coach.want(0);
        }
        coach.stroke(4, 1);
        Checks.due("errors(SWAPPED)", coach.errors(TypingCoach.SWAPPED), 1);
        coach.back(1);
        coach.stroke(9, 1);
        Checks.due("errors(MIRRORED)", coach.errors(TypingCoach.MIRRORED), 1);
        coach.back(1);
        coach.stroke(19, 1);
        Checks.due("errors(OTHER)", coach.errors(TypingCoach.OTHER), 1);
        Checks.due("errorsOf(0)", coach.errorsOf(0), 5);
        Checks.due("errorsOf(7)", coach.errorsOf(7), 0);
        coach.endDay();
        Checks.due("errors stay at the end of a day", coach.errors(TypingCoach.DOUBLED), 2);
    }

    private static void fingersAsTheyWere() {
        TypingCoach coach = new TypingCoach();
        Checks.fail(coach, 9, 25, 2);
        coach.put(9, 1, 2);
        Checks.due("errorsOf(7)", coach.errorsOf(7), 2);
        Checks.due("errorsOf(1)", coach.errorsOf(1), 0);
        Checks.fail(coach, 9, 25, 1);
        Checks.due("errorsOf(7)", coach.errorsOf(7), 2);
        Checks.due("errorsOf(1)", coach.errorsOf(1), 1);
    }
}
