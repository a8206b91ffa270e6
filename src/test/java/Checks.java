/** What the tests share: comparing answers, expecting exceptions, and typing. */
final class Checks {
    static final Class<IndexOutOfBoundsException> INDEX = IndexOutOfBoundsException.class;
    static final Class<IllegalArgumentException> ARGUMENT = IllegalArgumentException.class;
    static final Class<IllegalStateException> STATE = IllegalStateException.class;

    private static int wrong = 0;
    private static int made = 0;

    interface Call {
        Object answer();
    }

    static void due(String call, Object got, Object want) {
        made++;
        if (!want.equals(got)) {
            wrong++;
            System.out.println(call + " answered " + got + ", due is " + want);
        }
    }

    /** The call must throw just this exception, no class below it. RefusalTest looks at what stands afterwards. */
    static void dueThrow(String told, Class<? extends RuntimeException> want, Call call) {
        due(told + " throws", nameOfThrown(call), want.getSimpleName());
    }

    static String nameOfThrown(Call call) {
        try {
            call.answer();
            return "nothing";
        } catch (RuntimeException e) {
            return e.getClass().getSimpleName();
        }
    }

    /** Wants a letter and types it right, so many times. */
    static void practise(TypingCoach coach, int letter, int millis, int times) {
        for (int k = 0; k < times; k++) {
            coach.want(letter);
            coach.stroke(letter, millis);
        }
    }

    /** Wants a letter and types another one, so many times. */
    static void fail(TypingCoach coach, int letter, int typed, int times) {
        for (int k = 0; k < times; k++) {
            coach.want(letter);
            coach.stroke(typed, 1);
        }
    }

    /** Wants a letter and types it, right for each r of the text and wrong for each other sign. */
    static void follow(TypingCoach coach, int letter, String strokes) {
        for (char sign : strokes.toCharArray()) {
            coach.want(letter);
            coach.stroke(sign == 'r' ? letter : (letter + 13) % 26, 1);
        }
    }

    static void finish() {
        System.out.println(wrong == 0 ? made + " answers are as due" : wrong + " answers are not as due");
        System.exit(wrong == 0 ? 0 : 1);
    }
}
