/** What the tests share: comparing answers, expecting exceptions, and reading all that a coach tells. */
final class Checks {
    static final Class<IndexOutOfBoundsException> INDEX = IndexOutOfBoundsException.class;
    static final Class<IllegalArgumentException> ARGUMENT = IllegalArgumentException.class;
    static final Class<IllegalStateException> STATE = IllegalStateException.class;

    private static int wrong = 0;
    private static int made = 0;

    interface Call {
        Object answer();
    }

    static void due(String call, Object got, Object want) {
        made++;
        if (!want.equals(got)) {
            wrong++;
            System.out.println(call + " answered " + got + ", due is " + want);
        }
    }

    /** The call must throw just this exception, no class below it, and change nothing. */
    static void dueThrow(String told, Class<? extends RuntimeException> want, TypingCoach coach, Call call) {
        String before = state(coach);
        due(told + " throws", nameOfThrown(call), want.getSimpleName());
        due("the state after " + told, state(coach), before);
    }

    static String nameOfThrown(Call call) {
        try {
            call.answer();
            return "nothing";
        } catch (RuntimeException e) {
            return e.getClass().getSimpleName();
        }
    }

    /** All answers of the calls that change nothing. */
    static String state(TypingCoach coach) {
        StringBuilder text = new StringBuilder();
        for (int letter = 0; letter < 26; letter++) {
            text.append(letter).append(':').append(coach.finger(letter)).append(' ').append(coach.mirror(letter));
            text.append(' ').append(coach.count(letter)).append(' ').append(coach.time(letter));
            text.append(' ').append(coach.share(letter)).append(' ').append(coach.isIn(letter));
            text.append(' ').append(coach.isGood(letter));
            for (int other = 0; other < 26; other++) {
                text.append(coach.areBeside(letter, other) ? '+' : '-').append(coach.pairTime(letter, other));
            }
            text.append('\n');
        }
        text.append("wanted");
        for (int place = 0; place < coach.wanted(); place++) {
            text.append(' ').append(coach.wantedAt(place));
        }
        text.append("\nspeeds");
        for (int lesson = 0; lesson < coach.lessons(); lesson++) {
            text.append(' ').append(coach.speedOf(lesson));
        }
        text.append("\nerrors");
        for (int kind = 0; kind < 5; kind++) {
            text.append(' ').append(coach.errors(kind));
        }
        for (int finger = 0; finger < 8; finger++) {
            text.append(' ').append(coach.errorsOf(finger));
        }
        text.append("\nlesson ").append(coach.position()).append(' ').append(coach.speed());
        text.append(' ').append(coach.mended()).append(' ').append(coach.weakest());
        text.append(' ').append(coach.falls()).append(' ').append(coach.strokes());
        return text.toString();
    }

    /** Wants a letter and types it right, so many times. */
    static void practise(TypingCoach coach, int letter, int millis, int times) {
        for (int k = 0; k < times; k++) {
            coach.want(letter);
            coach.stroke(letter, millis);
        }
    }

    /** Wants a letter and types another one, so many times. */
    static void fail(TypingCoach coach, int letter, int typed, int times) {
        for (int k = 0; k < times; k++) {
            coach.want(letter);
            coach.stroke(typed, 1);
        }
    }

    /** Wants a letter and types it, right for each r of the text and wrong for each other sign. */
    static void follow(TypingCoach coach, int letter, String strokes) {
        for (char sign : strokes.toCharArray()) {
            coach.want(letter);
            coach.stroke(sign == 'r' ? letter : (letter + 13) % 26, 1);
        }
    }

    static void finish() {
        System.out.println(wrong == 0 ? made + " answers are as due" : wrong + " answers are not as due");
        System.exit(wrong == 0 ? 0 : 1);
    }
}
