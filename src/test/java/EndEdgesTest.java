/** The edges of the end of a lesson, of lessons, their speeds and falls: promises 15 and 26 to 28, a test each. */
public final class EndEdgesTest {
    private static final String MIN = String.valueOf(Integer.MIN_VALUE);
    private static final String MAX = String.valueOf(Integer.MAX_VALUE);
    private static final String FULL = "end; ".repeat(100);
    /** Strokes of a good letter that make a share of more than 5000, and just 5000, and just 5001. */
    private static final String FAR = "wwwwwww";
    private static final String JUST_5000 = "wwwwrrwwrwrw";
    private static final String JUST_5001 = "wrrrrwwrwww";

    public static void main(String[] args) {
        hundredLessons();
        emptyLessons();
        lettersAboveThree();
        countsOfThree();
        sharesOfMoreThan5000();
        asAtFirst();
        noneIsTakenOut();
        allThatAreInAreGood();
        lowestThatIsNotIn();
        allAreIn();
        speedsAreKept();
        speedOf();
        falls();
        Checks.finish();
    }

    private static void hundredLessons() {
        Script.check("end: the first lesson", "end = NONE; lessons = 1");
        Script.check("end: the lesson 100", "end; ".repeat(99) + "lessons = 99; end = NONE; lessons = 100");
        Script.check("end: 100 lessons have ended", FULL + "end = State; lessons = 100; end = State; lessons = 100");
        Script.check("end: the lesson 101 goes on", FULL + "want 3; stroke 3 5; end = State; wanted = 1; position = 1; speed = 12000");
        Script.check("end: a day makes no room", FULL + "endDay; end = State");
        Script.check("end: the lesson 100 can let a letter in",
            "end; ".repeat(99) + Script.typed(0, "rrr", 1) + Script.typed(1, "rrr", 1) + Script.typed(2, "rrr", 1)
                + Script.typed(3, "rrr", 1) + "end = 4; isIn 4 = true; lessons = 100");
        Script.check("end: the lesson 101 lets none in",
            FULL + "wish 5000 10000; " + Script.thrice(0, 3) + "end = State; isIn 4 = false");
        Script.check("end: the lesson 101 takes none out", Script.letInUpTo(4) + "end; ".repeat(99)
            + Script.typed(4, FAR, 1) + "lessons = 100; end = State; isIn 4 = true; count 4 = 7");
        Script.check("lessons: 0 to 100", "lessons = 0; " + FULL + "lessons = 100");
        Script.check("lessons: not the one that goes on", "want 0; stroke 0 1; lessons = 0");
    }

    private static void emptyLessons() {
        Script.check("end: no wanted letter", "end = NONE; lessons = 1; speedOf 0 = 0");
        Script.check("end: no stroke", "want 0; end = NONE; lessons = 1; speedOf 0 = 0; wanted = 0");
        Script.check("end: some letters are not typed", "want 0; want 1; stroke 0 10; end = NONE; speedOf 0 = 6000; wanted = 0");
        Script.check("end: all letters are typed", "want 0; stroke 0 10; end = NONE; speedOf 0 = 6000; position = 0");
        Script.check("end: 40 letters are typed", "want 1; stroke 1 1; ".repeat(40) + "end = NONE; speedOf 0 = 60000; wanted = 0");
        Script.check("end: a lesson without wanted letters begins", "want 0; stroke 9 1; back 1; end; wanted = 0; position = 0; "
            + "mended = 0; speed = 0; stroke 0 1 = State; back 1 = State; wantedAt 0 = Index");
        Script.check("end: the day goes on", "want 0; stroke 0 1; end; strokes = 1");
    }

    private static void lettersAboveThree() {
        Script.check("end: the letter 3 is not taken out", Script.typed(3, FAR, 1) + "share 3 = 6071; end = NONE; isIn 3 = true; "
            + "count 3 = 7; share 3 = 6071");
        Script.check("end: the letter 0 is not taken out", Script.typed(0, FAR, 1) + "end = NONE; isIn 0 = true; count 0 = 7");
        Script.check("end: the letter 4 is taken out", Script.letInUpTo(4) + Script.typed(4, FAR, 1) + "end = NONE; isIn 4 = false");
        Script.check("end: the letter 25 is taken out", Script.letInUpTo(25) + Script.typed(25, FAR, 1)
            + "isIn 25 = true; end = NONE; isIn 25 = false; isIn 24 = true");
        Script.check("end: a letter that is not in is not taken out", Script.typed(4, FAR, 1) + Script.typed(25, FAR, 1)
            + "end = NONE; count 4 = 7; share 4 = 6071; count 25 = 7; share 25 = 6071");
        Script.check("end: several are taken out, the others stay", Script.letInUpTo(6) + Script.typed(4, FAR, 1)
            + Script.typed(6, FAR, 1) + "end = NONE; isIn 4 = false; isIn 5 = true; isIn 6 = false; count 5 = 3");
        Script.check("end: not before the end", Script.letInUpTo(4) + Script.typed(4, FAR, 1) + "isIn 4 = true; endDay; isIn 4 = true");
    }

    private static void countsOfThree() {
        Script.check("end: a count of 3 is enough", Script.letInUpTo(4) + Script.typed(4, FAR, 1)
            + "endDay; count 4 = 3; end = NONE; isIn 4 = false");
        Script.check("end: a count of 2 is not", Script.letInUpTo(4) + Script.typed(4, FAR, 1)
            + "endDay; endDay; " + Script.typed(4, "w", 1) + "count 4 = 2; end = NONE; isIn 4 = true; share 4 = 6562");
        Script.check("end: a count of 0 is not", Script.letInUpTo(4) + Script.typed(4, FAR, 1)
            + "endDay; endDay; endDay; count 4 = 0; end = NONE; isIn 4 = true; share 4 = 6071");
    }

    private static void sharesOfMoreThan5000() {
        Script.check("end: a share of 5001 is more than 5000", Script.letInUpTo(4) + Script.typed(4, JUST_5001, 1)
            + "share 4 = 5001; end = NONE; isIn 4 = false");
        // With the share of 5000 the letter is good for the wish of 10000, so that the next one is let in.
        Script.check("end: a share of 5000 is not", Script.letInUpTo(4) + Script.typed(4, JUST_5000, 1)
            + "share 4 = 5000; end = 5; isIn 4 = true; share 4 = 5000");
        Script.check("end: the wish of 10000 keeps no letter in", Script.letInUpTo(4) + Script.typed(4, FAR, 1)
            + "isGood 4 = true; end = NONE; isIn 4 = false");
        Script.check("end: the wish of 0 takes no letter out", Script.letInUpTo(4) + Script.typed(4, JUST_5000, 1)
            + "wish 1 0; end = NONE; isIn 4 = true");
    }

    private static void asAtFirst() {
        String out = Script.letInUpTo(4) + Script.typed(4, FAR, 1) + "end = NONE; ";
        Script.check("end: its count becomes 0", out + "count 4 = 0");
        Script.check("end: its share becomes 0", out + "share 4 = 0");
        Script.check("end: its time becomes 400", out + "time 4 = 400");
        Script.check("end: it is not good", out + "isGood 4 = false");
        Script.check("end: the letters 3 and 5 keep their figures", Script.letInUpTo(4) + Script.typed(4, FAR, 1)
            + Script.typed(5, "w", 1) + "end = NONE; count 3 = 3; time 3 = 400; count 5 = 1; share 5 = 1250; time 5 = 300");
        Script.check("end: times of pairs are no figures of the letter", Script.letInUpTo(4) + Script.typed(4, FAR, 4)
            + "pairTime 4 4 = 73; end = NONE; pairTime 4 4 = 73");
        Script.check("end: errors stay", out + "errors 4 = 1; errors 0 = 6; errorsOf 3 = 7");
    }

    private static void noneIsTakenOut() {
        String good = Script.letInUpTo(5) + Script.thrice(5, 5) + Script.typed(4, FAR, 1);
        Script.check("end: one is taken out, so none is let in", good + "end = NONE; isIn 4 = false; isIn 5 = true; isIn 6 = false");
        Script.check("end: the next end lets it in again", good + "end = NONE; end = 4; isIn 4 = true; isIn 6 = false");
        Script.check("end: then the one that is next", good + "end = NONE; end = 4; end = NONE; " + Script.thrice(4, 4)
            + "end = 6; isIn 6 = true");
        Script.check("end: the last letter out and in again", Script.letInUpTo(25) + Script.typed(25, FAR, 1)
            + "end = NONE; isIn 25 = false; end = 25; isIn 25 = true; end = NONE");
        Script.check("end: two out, the lowest in first", Script.letInUpTo(6) + Script.typed(4, FAR, 1) + Script.typed(6, FAR, 1)
            + "end = NONE; end = 4; isIn 6 = false; " + Script.thrice(4, 4) + "end = 6; isIn 7 = false");
    }

    private static void allThatAreInAreGood() {
        String[] strokes = {"rrr", "rrr", "rrr", "rrr"};
        for (int lazy = 0; lazy < 4; lazy++) {
            strokes[lazy] = "rr";
            StringBuilder text = new StringBuilder("wish 5000 10000; ");
            for (int letter = 0; letter < 4; letter++) {
                text.append(Script.typed(letter, strokes[letter], 1));
            }
            strokes[lazy] = "rrr";
            Script.check("end: all but the letter " + lazy + " are good", text + "end = NONE; isIn 4 = false");
            Script.check("end: and then it is, too", text + Script.typed(lazy, "r", 1) + "end = 4; isIn 4 = true; isIn 5 = false");
        }
        Script.check("end: no letter is good", "end = NONE; isIn 4 = false");
        Script.check("end: the one that was let in last is not good", Script.letInUpTo(4) + "end = NONE; isIn 5 = false");
        Script.check("end: only the letter 24 is not good", Script.letInUpTo(24) + Script.typed(24, "rr", 1) + "end = NONE; isIn 25 = false");
        Script.check("end: a letter that is not in need not be good", "wish 5000 10000; " + Script.thrice(0, 3)
            + Script.typed(25, "w", 1) + "end = 4");
        Script.check("end: a letter that is not in is good, one that is in is not", "wish 5000 10000; " + Script.thrice(0, 2)
            + Script.thrice(4, 4) + "end = NONE; isIn 4 = false");
        Script.check("end: good for the wish at the end", Script.thrice(0, 3) + "wish 399 0; end = NONE; wish 400 0; end = 4");
        Script.check("end: the day took the counts", "wish 5000 10000; " + Script.thrice(0, 3) + "endDay; end = NONE; isIn 4 = false");
    }

    private static void lowestThatIsNotIn() {
        String in = "wish 5000 10000; " + Script.thrice(0, 3);
        Script.check("end: the letter 4 comes first", in + "end = 4; isIn 4 = true; isIn 5 = false; isIn 25 = false");
        Script.check("end: one letter only", in + Script.thrice(4, 5) + "end = 4; isIn 5 = false; end = 5; isIn 6 = false");
        Script.check("end: the letter 25 comes last", Script.letInUpTo(24) + Script.thrice(24, 24)
            + "isIn 25 = false; end = 25; isIn 25 = true");
        Script.check("end: it keeps the figures that it has", in + Script.typed(4, "w", 1) + "end = 4; count 4 = 1; share 4 = 1250; time 4 = 300");
        Script.check("end: a bad letter is let in, and out at the next end", in + Script.typed(4, FAR, 1)
            + "end = 4; isIn 4 = true; share 4 = 6071; end = NONE; isIn 4 = false; share 4 = 0");
    }

    private static void allAreIn() {
        Script.check("end: all are in, the last one is not good", Script.letInUpTo(25) + "end = NONE; isIn 25 = true");
        Script.check("end: all are in and good", Script.letInUpTo(25) + Script.thrice(25, 25)
            + "isGood 25 = true; end = NONE; isIn 0 = true; isIn 25 = true; end = NONE");
        Script.check("isIn: all letters", Script.letInUpTo(25) + "isIn 0 = true; isIn 4 = true; isIn 24 = true; isIn 25 = true; isIn 26 = Index");
    }

    private static void speedsAreKept() {
        Script.check("end: the speed of the lesson is kept", "want 0; stroke 0 7; speed = 8571; end; speedOf 0 = 8571");
        Script.check("end: of each lesson", "want 0; stroke 0 7; end; want 0; stroke 0 5000; end; end; "
            + "speedOf 0 = 8571; speedOf 1 = 12; speedOf 2 = 0");
        Script.check("end: without the mended strokes", "want 0; want 1; stroke 0 1; stroke 1 1; back 1; end; speedOf 0 = 20000");
        Script.check("end: a letter that is let in changes no speed", "wish 5000 10000; " + Script.thrice(0, 3) + "end = 4; speedOf 0 = 150");
        Script.check("end: a day changes none", "want 0; stroke 0 7; end; endDay; speedOf 0 = 8571");
    }

    private static void speedOf() {
        Script.check("speedOf: no lesson has ended", "speedOf 0 = Index; speedOf -1 = Index; want 0; stroke 0 1; speedOf 0 = Index");
        Script.check("speedOf: from 0", "want 0; stroke 0 1; end; end; speedOf 0 = 60000; speedOf -1 = Index");
        Script.check("speedOf: to the one that has ended last", "end; want 0; stroke 0 1; end; speedOf 1 = 60000; speedOf 2 = Index");
        Script.check("speedOf: of 100 lessons", "want 0; stroke 0 1; end; " + "end; ".repeat(98) + "speedOf 99 = Index; "
            + "want 0; stroke 0 2; end; speedOf 0 = 60000; speedOf 98 = 0; speedOf 99 = 30000; speedOf 100 = Index");
        Script.check("speedOf: far out", "end; speedOf " + MIN + " = Index; speedOf " + MAX + " = Index");
    }

    private static void falls() {
        String fast = "want 0; stroke 0 10; end; ";
        String slow = "want 0; stroke 0 20; end; ";
        Script.check("falls: no lesson", "falls = 0");
        Script.check("falls: one lesson has none ahead of it", fast + "falls = 0");
        Script.check("falls: one lesson of speed 0", "end; falls = 0");
        Script.check("falls: slower", fast + slow + "falls = 1");
        Script.check("falls: as fast is not slower", fast + fast + "falls = 0");
        Script.check("falls: both of speed 0", "end; end; falls = 0");
        Script.check("falls: faster", slow + fast + "falls = 0");
        Script.check("falls: the speeds that are kept count, rounded down",
            "want 0; stroke 0 4980; end; want 0; stroke 0 5000; end; speedOf 0 = 12; speedOf 1 = 12; falls = 0");
        Script.check("falls: a little slower", "want 0; stroke 0 4615; end; want 0; stroke 0 4616; end; speedOf 0 = 13; falls = 1");
        Script.check("falls: down to the speed 0", fast + slow + "end; falls = 2; end; falls = 0");
        Script.check("falls: 2, and 3, from which on a rest is due", fast + "want 0; stroke 0 15; end; " + slow
            + "falls = 2; end; falls = 3; end; falls = 0");
        Script.check("falls: as fast breaks the row", fast + slow + slow + "falls = 0; end; falls = 1");
        Script.check("falls: a faster one breaks the row", fast + slow + "end; " + slow + "falls = 0; end; falls = 1");
        Script.check("falls: the lesson that goes on does not count", fast + slow + "want 0; stroke 0 5000; falls = 1");
        Script.check("falls: a day changes none", fast + slow + "endDay; falls = 1");
        StringBuilder slower = new StringBuilder();
        for (int lesson = 0; lesson < 100; lesson++) {
            slower.append("want 0; stroke 0 ").append(lesson + 20).append("; end; ");
        }
        Script.check("falls: 99 of 100", slower + "falls = 99; end = State; falls = 99");
    }
}
