/** The edges that the document names in promises 6 to 14, each sentence with a test of its own. */
public final class LessonEdgesTest {
    private static final String MIN = String.valueOf(Integer.MIN_VALUE);
    private static final String MAX = String.valueOf(Integer.MAX_VALUE);
    private static final String FORTY = "want 1; ".repeat(40);
    private static final String FORTY_TYPED = FORTY + "stroke 1 5000; ".repeat(40);

    public static void main(String[] args) {
        want();
        lengthsOfDrills();
        roomForDrills();
        lettersOfDrills();
        wantedAndWantedAt();
        position();
        argumentsOfStroke();
        noWantedLetter();
        Checks.finish();
    }

    private static void want() {
        Script.check("want: the least letter", "want 0 = 1; wantedAt 0 = 0");
        Script.check("want: the greatest letter", "want 25 = 1; wantedAt 0 = 25");
        Script.check("want: below the least letter", "want -1 = Index; wanted = 0");
        Script.check("want: above the greatest letter", "want 26 = Index; wanted = 0");
        Script.check("want: far out", "want " + MIN + " = Index; want " + MAX + " = Index; wanted = 0");
        Script.check("want: a letter that is not in", "isIn 4 = false; want 4 = 1; want 25 = 2");
        Script.check("want: the same letter twice", "want 7 = 1; want 7 = 2; wantedAt 0 = 7; wantedAt 1 = 7");
        Script.check("want: the letter 40 is the last one", "want 1; ".repeat(39) + "want 2 = 40; want 3 = State; wanted = 40");
        Script.check("want: the fortieth is kept", "want 1; ".repeat(39) + "want 2; wantedAt 39 = 2; wantedAt 38 = 1");
        Script.check("want: if 40 are wanted, no such letter comes first", FORTY + "want 26 = Index; want -1 = Index");
        Script.check("want: if 39 are wanted, no such letter is still none", "want 1; ".repeat(39) + "want 26 = Index; want 0 = 40");
        Script.check("want: 40 that are typed are still wanted", FORTY_TYPED + "want 0 = State");
        Script.check("want: those that are typed are wanted still", "want 7; stroke 7 1; want 8 = 2; stroke 9 1; want 8 = 3");
        Script.check("want: going back makes no room", FORTY_TYPED + "back 1; back 1; want 0 = State");
        Script.check("want: the next lesson has room", FORTY + "want 0 = State; end; want 0 = 1");
        Script.check("want: the next day has none", FORTY + "endDay; want 0 = State");
        Script.check("want: 40 again in the next lesson", FORTY + "end; " + "want 2; ".repeat(39) + "want 3 = 40; want 3 = State");
    }

    private static void lengthsOfDrills() {
        Script.check("drill: the least length", "drill 1 = 1; wanted = 1");
        Script.check("drill: the greatest length", "drill 40 = 40; wanted = 40");
        Script.check("drill: below the least length", "drill 0 = Argument; drill -1 = Argument; wanted = 0");
        Script.check("drill: above the greatest length", "drill 41 = Argument; wanted = 0");
        Script.check("drill: far out", "drill " + MIN + " = Argument; drill " + MAX + " = Argument; wanted = 0");
        Script.check("drill: a full lesson keeps the range", FORTY + "drill 0 = Argument; drill 41 = Argument");
    }

    private static void roomForDrills() {
        Script.check("drill: just room", "want 1; ".repeat(38) + "drill 2 = 2; wanted = 40");
        Script.check("drill: one letter too long", "want 1; ".repeat(38) + "drill 3 = 2; wanted = 40");
        Script.check("drill: room for one", "want 1; ".repeat(39) + "drill 40 = 1; wanted = 40; wantedAt 39 = 0");
        Script.check("drill: the least one where there is room for one", "want 1; ".repeat(39) + "drill 1 = 1; wanted = 40");
        Script.check("drill: no room", FORTY + "drill 1 = 0; drill 40 = 0; wanted = 40; wantedAt 39 = 1");
        Script.check("drill: no room behind typed letters", FORTY_TYPED + "drill 1 = 0; position = 40; stroke 0 1 = State");
        Script.check("drill: one letter is there", "want 1; drill 40 = 39; wanted = 40; wantedAt 0 = 1; wantedAt 1 = 0");
        Script.check("drill: after a drill", "drill 39 = 39; drill 2 = 1; wanted = 40");
        Script.check("drill: no want after it", "drill 40; want 0 = State");
        Script.check("drill: it wants, it does not type", "drill 3; position = 0; strokes = 0; count 0 = 0");
    }

    private static void lettersOfDrills() {
        Script.check("drill: the first one is the weakest letter",
            Script.typed(2, "w", 1) + "end; drill 1; wantedAt 0 = 2");
        Script.check("drill: also if it is the last one wanted", "want 0; drill 2 = 2; wantedAt 1 = 0; wantedAt 2 = 1");
        Script.check("drill: of several pairs the lowest letter", "drill 4; wantedAt 0 = 0; wantedAt 1 = 1; wantedAt 2 = 0");
        Script.check("drill: not the one before it, though that pair is the slowest",
            Script.typed(0, "r", 401) + Script.typed(0, "r", 5000) + "end; weakest = 0; pairTime 0 0 = 1550; "
                + "drill 2; wantedAt 0 = 0; wantedAt 1 = 1");
        Script.check("drill: a millisecond makes the greatest time",
            "want 0; stroke 0 1000; want 3; stroke 3 404; want 0; stroke 0 1000; end; weakest = 0; "
                + "pairTime 0 3 = 401; drill 2; wantedAt 1 = 3");
        Script.check("drill: less than a millisecond makes none",
            "want 0; stroke 0 1000; want 3; stroke 3 403; want 0; stroke 0 1000; end; weakest = 0; "
                + "pairTime 0 3 = 400; drill 2; wantedAt 1 = 1");
        Script.check("drill: a pair that is faster comes later",
            "want 0; stroke 0 1000; want 1; stroke 1 396; want 0; stroke 0 1000; end; weakest = 0; "
                + "pairTime 0 1 = 399; drill 2; wantedAt 1 = 2");
        Script.check("drill: the pair of the one before and it, not the other way round",
            "want 3; stroke 3 400; want 0; stroke 0 5000; end; weakest = 0; pairTime 3 0 = 1550; "
                + "pairTime 0 3 = 400; drill 2; wantedAt 1 = 1");
        Script.check("drill: only of the letters that are in",
            "want 0; stroke 0 1000; want 4; stroke 4 5000; end; weakest = 0; drill 2; wantedAt 1 = 1");
        Script.check("drill: a letter that was let in last",
            Script.letInUpTo(4) + "want 0; stroke 0 5000; want 4; stroke 4 5000; end; weakest = 0; "
                + "drill 2; wantedAt 1 = 4");
        Script.check("drill: all letters are in, the last one first",
            Script.letInUpTo(25) + Script.typed(25, "w", 1) + "end; weakest = 25; drill 2; wantedAt 0 = 25; wantedAt 1 = 0");
        Script.check("drill: all letters are in, the last one next",
            Script.letInUpTo(25) + "want 0; stroke 0 5000; want 25; stroke 25 5000; end; weakest = 0; "
                + "pairTime 0 25 = 1550; drill 2; wantedAt 0 = 0; wantedAt 1 = 25");
        Script.check("drill: a letter that was taken out no more",
            Script.letInUpTo(4) + "want 0; stroke 0 5000; want 4; stroke 4 5000; " + Script.typed(4, "wwwwwww", 1)
                + "end; isIn 4 = false; weakest = 0; pairTime 0 4 = 1550; drill 2; wantedAt 1 = 1");
    }

    private static void wantedAndWantedAt() {
        Script.check("wanted: none", "wanted = 0");
        Script.check("wanted: one", "want 5; wanted = 1");
        Script.check("wanted: 40", FORTY + "wanted = 40");
        Script.check("wanted: strokes and going back leave them", "want 5; want 6; stroke 5 1; wanted = 2; back 1; wanted = 2");
        Script.check("wanted: none in the next lesson", FORTY + "end; wanted = 0");
        Script.check("wanted: as many the next day", "want 5; endDay; wanted = 1");
        Script.check("wantedAt: no letter is wanted", "wantedAt 0 = Index; wantedAt -1 = Index; wantedAt 1 = Index");
        Script.check("wantedAt: from 0", "want 5; want 6; wantedAt 0 = 5; wantedAt -1 = Index");
        Script.check("wantedAt: to the last one", "want 5; want 6; wantedAt 1 = 6; wantedAt 2 = Index");
        Script.check("wantedAt: of 40", FORTY + "wantedAt 0 = 1; wantedAt 39 = 1; wantedAt 40 = Index");
        Script.check("wantedAt: far out", "want 5; wantedAt " + MIN + " = Index; wantedAt " + MAX + " = Index");
        Script.check("wantedAt: what is typed is still wanted", "want 5; stroke 6 1; wantedAt 0 = 5; wantedAt 1 = Index");
        Script.check("wantedAt: not those of the lesson before", FORTY + "end; want 5; wantedAt 0 = 5; wantedAt 1 = Index");
        Script.check("wantedAt: none after the end", FORTY + "end; wantedAt 0 = Index; wantedAt 39 = Index");
    }

    private static void position() {
        Script.check("position: 0 at first", "position = 0; want 5; position = 0");
        Script.check("position: the number of wanted letters", "want 5; stroke 5 1; position = 1; wanted = 1");
        Script.check("position: 1 more by a wrong stroke, too", "want 5; stroke 6 1; position = 1");
        Script.check("position: 40 at most", FORTY_TYPED + "position = 40; stroke 1 1 = State; position = 40");
        Script.check("position: 39 ahead of the last one", FORTY + "stroke 1 1; ".repeat(39) + "position = 39");
        Script.check("position: 0 in the next lesson", FORTY_TYPED + "end; position = 0");
        Script.check("position: as it was the next day", "want 5; stroke 5 1; endDay; position = 1");
    }

    private static void argumentsOfStroke() {
        Script.check("stroke: the least letter", "want 0; stroke 0 1 = NONE; count 0 = 1");
        Script.check("stroke: the greatest letter", "want 25; stroke 25 1 = NONE; count 25 = 1");
        Script.check("stroke: below the least letter", "want 0; stroke -1 1 = Index; position = 0");
        Script.check("stroke: above the greatest letter", "want 0; stroke 26 1 = Index; position = 0");
        Script.check("stroke: letters far out", "want 0; stroke " + MIN + " 1 = Index; stroke " + MAX + " 1 = Index");
        Script.check("stroke: the least milliseconds", "want 0; stroke 0 1 = NONE; time 0 = 300");
        Script.check("stroke: the greatest milliseconds", "want 0; stroke 0 5000 = NONE; time 0 = 1550");
        Script.check("stroke: below the least milliseconds", "want 0; stroke 0 0 = Argument; stroke 0 -1 = Argument; position = 0");
        Script.check("stroke: above the greatest milliseconds", "want 0; stroke 0 5001 = Argument; position = 0");
        Script.check("stroke: milliseconds far out", "want 0; stroke 0 " + MIN + " = Argument; stroke 0 " + MAX + " = Argument");
        Script.check("stroke: a wrong one has the same range", "want 0; stroke 9 0 = Argument; stroke 9 5001 = Argument; stroke 9 5000 = MIRRORED");
        Script.check("stroke: no such letter comes first", "want 0; stroke 26 0 = Index; stroke -1 5001 = Index");
        Script.check("stroke: no such letter before no wanted letter", "stroke 26 1 = Index; stroke -1 1 = Index");
        Script.check("stroke: no such letter before both", "stroke 26 0 = Index; stroke -1 5001 = Index");
        Script.check("stroke: millis before no wanted letter", "stroke 0 0 = Argument; stroke 25 5001 = Argument");
    }

    private static void noWantedLetter() {
        Script.check("stroke: in an empty lesson", "stroke 0 1 = State; stroke 25 5000 = State; strokes = 0");
        Script.check("stroke: behind the last letter", "want 0; stroke 0 1 = NONE; stroke 0 1 = State; strokes = 1");
        Script.check("stroke: behind a wrong last one", "want 0; stroke 25 1 = OTHER; stroke 0 1 = State; strokes = 1");
        Script.check("stroke: the last of 40 and behind it", FORTY + "stroke 1 1; ".repeat(39) + "stroke 1 1 = NONE; stroke 1 1 = State");
        Script.check("stroke: behind 40, what comes first", FORTY_TYPED + "stroke 26 0 = Index; stroke 1 0 = Argument; stroke 1 1 = State");
        Script.check("stroke: one more that is wanted", "want 0; stroke 0 1; stroke 0 1 = State; want 1; stroke 1 1 = NONE");
        Script.check("stroke: going back lets it be typed again", "want 0; stroke 0 1; stroke 0 1 = State; back 1; stroke 0 1 = NONE");
        Script.check("stroke: in the lesson after the end", "want 0; want 1; stroke 0 1; end; stroke 1 1 = State");
        Script.check("stroke: the next day in the same lesson", "want 0; want 1; stroke 0 1; endDay; stroke 1 1 = NONE; stroke 1 1 = State");
    }
}
