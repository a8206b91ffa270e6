/** Promises 1 to 5: a new object and the board. */
public final class BoardTest {
    public static void main(String[] args) {
        newObject();
        put();
        fingers();
        beside();
        mirrors();
        Checks.finish();
    }

    private static void newObject() {
        for (int letter = 0; letter < 26; letter++) {
            TypingCoach coach = new TypingCoach();
            Checks.due("new count", coach.count(letter), 0);
            Checks.due("new time", coach.time(letter), 400);
            Checks.due("new share", coach.share(letter), 0);
            Checks.due("new isIn " + letter, coach.isIn(letter), letter < 4);
            Checks.due("new isGood", coach.isGood(letter), false);
            for (int other = 0; other < 26; other++) {
                Checks.due("new pairTime", coach.pairTime(letter, other), 400);
            }
        }
        TypingCoach coach = new TypingCoach();
        for (int kind = 0; kind < 5; kind++) {
            Checks.due("new errors", coach.errors(kind), 0);
        }
        for (int finger = 0; finger < 8; finger++) {
            Checks.due("new errorsOf", coach.errorsOf(finger), 0);
        }
        Checks.due("new wanted", coach.wanted(), 0);
        Checks.due("new position", coach.position(), 0);
        Checks.due("new speed", coach.speed(), 0);
        Checks.due("new mended", coach.mended(), 0);
        Checks.due("new lessons", coach.lessons(), 0);
        Checks.due("new falls", coach.falls(), 0);
        Checks.due("new strokes", coach.strokes(), 0);
        Checks.due("new weakest", coach.weakest(), 0);
    }

    private static void put() {
        TypingCoach coach = new TypingCoach();
        for (int letter = 0; letter < 26; letter++) {
            Checks.due("put where it is", coach.put(letter, letter % 10, letter / 10), letter);
        }
        Checks.due("put on an empty place", coach.put(0, 9, 2), -1);
        Checks.due("put where a letter was", coach.put(1, 0, 0), -1);
        Checks.due("put on another", coach.put(1, 9, 2), 0);
        Checks.due("the other went", coach.put(2, 0, 0), 0);
        Checks.due("and went again", coach.put(0, 2, 0), 0);
        Checks.due("the first is there", coach.put(1, 9, 2), 1);
        Checks.due("its first place is empty", coach.put(1, 1, 0), -1);
        Checks.due("and so is this one", coach.put(25, 9, 2), -1);
        TypingCoach swapped = new TypingCoach();
        Checks.due("put 0 on 25", swapped.put(0, 5, 2), 25);
        Checks.due("finger(0)", swapped.finger(0), 4);
        Checks.due("finger(25)", swapped.finger(25), 0);
        Checks.due("mirror(9)", swapped.mirror(9), 25);
        Checks.due("mirror(24)", swapped.mirror(24), 0);
    }

    private static void fingers() {
        int[] fingers = {0, 1, 2, 3, 3, 4, 4, 5, 6, 7};
        TypingCoach coach = new TypingCoach();
        for (int letter = 0; letter < 26; letter++) {
            Checks.due("finger(" + letter + ")", coach.finger(letter), fingers[letter % 10]);
        }
        for (int place = 0; place < 30; place++) {
            coach.put(7, place % 10, place / 10);
            Checks.due("finger at place " + place, coach.finger(7), fingers[place % 10]);
        }
    }

    private static void beside() {
        for (int letter = 0; letter < 26; letter++) {
            TypingCoach coach = new TypingCoach();
            for (int other = 0; other < 26; other++) {
                int columns = Math.abs(letter % 10 - other % 10);
                int rows = Math.abs(letter / 10 - other / 10);
                Checks.due("areBeside(" + letter + ", " + other + ")",
                    coach.areBeside(letter, other), columns < 2 && rows < 2);
            }
        }
        TypingCoach coach = new TypingCoach();
        coach.put(0, 9, 2);
        Checks.due("areBeside after put", coach.areBeside(0, 18), true);
        Checks.due("no more beside", coach.areBeside(0, 1), false);
    }

    private static void mirrors() {
        TypingCoach coach = new TypingCoach();
        for (int letter = 0; letter < 26; letter++) {
            int mirror = letter / 10 * 10 + 9 - letter % 10;
            Checks.due("mirror(" + letter + ")", coach.mirror(letter), mirror < 26 ? mirror : -1);
        }
        coach.put(3, 8, 2);
        Checks.due("mirror(21)", coach.mirror(21), 3);
        Checks.due("mirror(3)", coach.mirror(3), 21);
        Checks.due("mirror(6)", coach.mirror(6), -1);
    }
}
