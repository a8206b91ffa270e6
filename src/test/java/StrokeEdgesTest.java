/** The edges of the kinds of errors, of going back, of mending and of speed: promises 11 to 14, a test each. */
public final class StrokeEdgesTest {
    private static final String MIN = String.valueOf(Integer.MIN_VALUE);
    private static final String MAX = String.valueOf(Integer.MAX_VALUE);

    public static void main(String[] args) {
        doubled();
        swapped();
        besideAndMirrored();
        firstKindThatFits();
        argumentsOfBack();
        goingBack();
        mended();
        speed();
        speedOfMendedStrokes();
        Checks.finish();
    }

    private static void doubled() {
        Script.check("DOUBLED: by a right stroke before", "want 7; want 0; stroke 7 1; stroke 7 1 = DOUBLED");
        Script.check("DOUBLED: by a wrong stroke before", "want 5; want 0; stroke 7 1; stroke 7 1 = DOUBLED");
        Script.check("DOUBLED: not what was wanted before", "want 7; want 0; stroke 25 1; stroke 7 1 = OTHER");
        Script.check("DOUBLED: no stroke before the first one", "want 0; want 1; stroke 7 1 = OTHER");
        Script.check("DOUBLED: not the stroke before that", "want 7; want 1; want 0; stroke 7 1; stroke 1 1; stroke 7 1 = OTHER");
        Script.check("DOUBLED: not the mended stroke for this position",
            "want 5; want 0; stroke 5 1; stroke 7 1 = OTHER; back 1; stroke 7 1 = OTHER");
        Script.check("DOUBLED: the stroke before is the one for the position before, not the latest of all",
            "want 7; want 0; stroke 7 1; stroke 8 1; back 1; stroke 7 1 = DOUBLED");
        Script.check("DOUBLED: the latest one for the position before",
            "want 5; want 0; stroke 7 1; back 1; stroke 8 1; stroke 8 1 = DOUBLED");
        Script.check("DOUBLED: no earlier one for the position before",
            "want 5; want 0; stroke 7 1; back 1; stroke 8 1; stroke 7 1 = OTHER");
        Script.check("DOUBLED: nothing at position 0 after going back",
            "want 0; want 5; stroke 7 1; stroke 7 1; back 1; back 1; stroke 7 1 = OTHER");
        Script.check("DOUBLED: nothing of the lesson before", "want 7; stroke 7 1; end; want 0; stroke 7 1 = OTHER");
        Script.check("DOUBLED: across the end of a day", "want 7; want 0; stroke 7 1; endDay; stroke 7 1 = DOUBLED");
        Script.check("DOUBLED: at the last of 40 positions",
            "want 7; ".repeat(39) + "want 0; " + "stroke 7 1; ".repeat(39) + "stroke 7 1 = DOUBLED");
        Script.check("DOUBLED: a right stroke of the same letter is none", "want 7; want 7; stroke 7 1; stroke 7 1 = NONE");
        Script.check("DOUBLED: a refused stroke is none",
            "want 5; want 0; stroke 5 1; stroke 7 5001 = Argument; stroke 7 1 = OTHER");
    }

    private static void swapped() {
        Script.check("SWAPPED: the letter at the next position", "want 0; want 7; stroke 7 1 = SWAPPED");
        Script.check("SWAPPED: not the one behind that", "want 0; want 25; want 7; stroke 7 1 = OTHER");
        Script.check("SWAPPED: not the one before", "want 7; want 0; want 5; stroke 6 1; stroke 7 1 = OTHER");
        Script.check("SWAPPED: none is wanted next", "want 0; stroke 7 1 = OTHER");
        Script.check("SWAPPED: one is wanted next later", "want 0; stroke 7 1 = OTHER; back 1; want 7; stroke 7 1 = SWAPPED");
        Script.check("SWAPPED: not the next one of the lesson before", "want 0; want 7; end; want 0; stroke 7 1 = OTHER");
        Script.check("SWAPPED: the last but one of 40", "want 0; ".repeat(39) + "want 7; " + "stroke 0 1; ".repeat(38)
            + "stroke 7 1 = SWAPPED");
        Script.check("SWAPPED: nothing is next at the last of 40", "want 0; ".repeat(40) + "stroke 0 1; ".repeat(39)
            + "stroke 7 1 = OTHER");
    }

    private static void besideAndMirrored() {
        Script.check("BESIDE: the columns differ by 1", "want 11; stroke 12 1 = BESIDE");
        Script.check("BESIDE: the rows differ by 1", "want 11; stroke 1 1 = BESIDE");
        Script.check("BESIDE: both differ by 1", "want 11; stroke 22 1 = BESIDE");
        Script.check("BESIDE: not by 2 columns", "want 11; stroke 13 1 = OTHER");
        Script.check("BESIDE: not by 2 rows", "want 1; stroke 21 1 = OTHER");
        Script.check("BESIDE: not round the edge", "want 9; stroke 10 1 = OTHER; want 10; stroke 9 1 = OTHER");
        Script.check("BESIDE: as the board is then",
            "want 0; stroke 25 1 = OTHER; back 1; put 25 1 1; stroke 25 1 = BESIDE");
        Script.check("MIRRORED: the outer columns", "want 0; stroke 9 1 = MIRRORED");
        Script.check("MIRRORED: the columns 3 and 6", "want 13; stroke 16 1 = MIRRORED");
        Script.check("MIRRORED: not in another row", "want 0; stroke 19 1 = OTHER");
        Script.check("MIRRORED: none is there", "want 20; stroke 9 1 = OTHER");
        Script.check("MIRRORED: the one that came there", "put 3 9 2; want 20; stroke 3 1 = MIRRORED");
        Script.check("MIRRORED: not the one that left", "put 9 9 2; want 0; stroke 9 1 = OTHER");
    }

    private static void firstKindThatFits() {
        Script.check("all kinds but OTHER fit: DOUBLED", "want 5; want 4; want 5; stroke 5 1; stroke 5 1 = DOUBLED");
        Script.check("SWAPPED, BESIDE and MIRRORED fit: SWAPPED", "want 4; want 5; stroke 5 1 = SWAPPED");
        Script.check("BESIDE and MIRRORED fit: BESIDE", "want 4; want 9; stroke 5 1 = BESIDE");
        Script.check("DOUBLED and SWAPPED fit: DOUBLED", "want 7; want 0; want 7; stroke 7 1; stroke 7 1 = DOUBLED");
        Script.check("DOUBLED and BESIDE fit: DOUBLED", "want 1; want 0; stroke 1 1; stroke 1 1 = DOUBLED");
        Script.check("DOUBLED and MIRRORED fit: DOUBLED", "want 9; want 0; stroke 9 1; stroke 9 1 = DOUBLED");
        Script.check("SWAPPED and BESIDE fit: SWAPPED", "want 0; want 1; stroke 1 1 = SWAPPED");
        Script.check("SWAPPED and MIRRORED fit: SWAPPED", "want 0; want 9; stroke 9 1 = SWAPPED");
        Script.check("none fits: OTHER", "want 0; want 5; stroke 7 1 = OTHER");
        Script.check("the letter at the position: right", "want 0; want 0; want 0; stroke 0 1; stroke 0 1 = NONE");
    }

    private static void argumentsOfBack() {
        Script.check("back: the least milliseconds", "want 0; stroke 0 1; back 1 = 0");
        Script.check("back: the greatest milliseconds", "want 0; stroke 0 1; back 5000 = 0");
        Script.check("back: below the least", "want 0; stroke 0 1; back 0 = Argument; back -1 = Argument; position = 1");
        Script.check("back: above the greatest", "want 0; stroke 0 1; back 5001 = Argument; position = 1");
        Script.check("back: far out", "want 0; stroke 0 1; back " + MIN + " = Argument; back " + MAX + " = Argument");
        Script.check("back: the position is 0", "back 1 = State; back 5000 = State");
        Script.check("back: the position is 0, letters are wanted", "want 0; back 1 = State");
        Script.check("back: millis come first", "back 0 = Argument; back 5001 = Argument");
        Script.check("back: once more than there were strokes", "want 0; stroke 0 1; back 1 = 0; back 1 = State; back 0 = Argument");
        Script.check("back: not into the lesson before", "want 0; stroke 0 1; end; back 1 = State");
        Script.check("back: into the day before", "want 0; stroke 0 1; endDay; back 1 = 0");
    }

    private static void goingBack() {
        String forty = "want 1; ".repeat(40) + "stroke 1 1; ".repeat(40);
        Script.check("back: from the position 40", forty + "back 1 = 39; position = 39");
        Script.check("back: all the way", forty + "back 1; ".repeat(39) + "back 1 = 0; back 1 = State; mended = 40; wanted = 40");
        Script.check("back: the position is 1 less", "want 0; want 1; stroke 0 1; stroke 1 1; back 1 = 1; position = 1");
        Script.check("back: counts stay", "want 0; stroke 0 100; back 50; count 0 = 1");
        Script.check("back: times stay", "want 0; stroke 0 800; back 5000; time 0 = 500");
        Script.check("back: shares stay", "want 0; stroke 9 100; back 50; share 0 = 1250");
        Script.check("back: times of pairs stay", "want 0; want 1; stroke 0 1; stroke 1 800; back 5000; pairTime 0 1 = 500");
        Script.check("back: errors stay", "want 0; stroke 9 100; back 50; errors 3 = 1; errorsOf 0 = 1");
        Script.check("back: what is typed again counts again",
            "want 0; stroke 9 100; back 50; stroke 9 100 = MIRRORED; count 0 = 2; share 0 = 2343; errors 3 = 2; errorsOf 0 = 2");
        Script.check("back: a pair typed again counts again",
            "want 0; want 1; stroke 0 1; stroke 1 800; back 1; stroke 1 800; pairTime 0 1 = 575; time 1 = 575");
    }

    private static void mended() {
        Script.check("mended: none at first", "want 0; stroke 0 1; mended = 0");
        Script.check("mended: a right stroke", "want 0; stroke 0 1; back 1; mended = 1");
        Script.check("mended: a wrong stroke", "want 0; stroke 9 1; back 1; mended = 1");
        Script.check("mended: two for one position", "want 0; stroke 9 1; back 1; stroke 0 1; back 1; mended = 2");
        Script.check("mended: a stroke again mends no more", "want 0; stroke 9 1; back 1; stroke 0 1; mended = 1");
        Script.check("mended: more than there are positions", "want 0; " + "stroke 0 1; back 1; ".repeat(50) + "mended = 50");
        Script.check("mended: none in the next lesson", "want 0; stroke 0 1; back 1; end; mended = 0");
        Script.check("mended: as many the next day", "want 0; stroke 0 1; back 1; endDay; mended = 1");
        Script.check("mended: not by going back that is refused",
            "want 0; stroke 0 1; back 0 = Argument; mended = 0; back 1; back 1 = State; mended = 1");
    }

    private static void speed() {
        Script.check("speed: 0 if the time is 0", "speed = 0; want 0; speed = 0; drill 3; speed = 0");
        Script.check("speed: a right stroke of the least time", "want 0; stroke 0 1; speed = 60000");
        Script.check("speed: a right stroke of the greatest time", "want 0; stroke 0 5000; speed = 12");
        Script.check("speed: wrong strokes alone", "want 0; stroke 9 1; speed = 0");
        Script.check("speed: a wrong stroke has a time", "want 0; want 1; stroke 0 1; stroke 9 1; speed = 30000");
        Script.check("speed: rounded down, little is left", "want 0; stroke 0 7; speed = 8571");
        Script.check("speed: rounded down, much is left", "want 0; stroke 0 4616; speed = 12");
        Script.check("speed: nothing is left", "want 0; stroke 0 4615; speed = 13; want 1; stroke 1 5; speed = 25");
        Script.check("speed: 40 right strokes of the least time", "want 1; ".repeat(40) + "stroke 1 1; ".repeat(40) + "speed = 60000");
        Script.check("speed: 40 right strokes of the greatest time",
            "want 1; ".repeat(40) + "stroke 1 5000; ".repeat(40) + "speed = 12");
        Script.check("speed: 0 by rounding",
            "want 0; want 1; stroke 0 5000; stroke 1 5000; back 5000; " + "stroke 9 5000; back 5000; ".repeat(5) + "speed = 0");
        Script.check("speed: the last that is not 0 by rounding", "want 0; stroke 9 5000; " + "back 5000; stroke 9 5000; ".repeat(5)
            + "back 4999; stroke 0 1; speed = 1; want 1; stroke 9 1; speed = 0");
        Script.check("speed: the longest lesson that calls allow", "want 0; want 1; stroke 0 5000; "
            + "stroke 1 5000; back 5000; ".repeat(254) + "speed = 0");
        Script.check("speed: 0 in the next lesson", "want 0; stroke 0 1; end; speed = 0");
        Script.check("speed: the same the next day", "want 0; stroke 0 1; endDay; speed = 60000");
        Script.check("speed: refused calls have no time", "want 0; stroke 0 10; stroke 0 10 = State; back 5001 = Argument; speed = 6000");
    }

    private static void speedOfMendedStrokes() {
        Script.check("speed: going back has a time", "want 0; want 1; stroke 0 1; stroke 9 1; back 2; speed = 15000");
        Script.check("speed: a right stroke that is mended", "want 0; stroke 0 1; back 1; speed = 0");
        Script.check("speed: it is typed again, right", "want 0; stroke 0 1; back 1; stroke 0 1; speed = 20000");
        Script.check("speed: it is typed again, wrong", "want 0; stroke 0 1; back 1; stroke 9 1; speed = 0");
        Script.check("speed: a wrong stroke is mended and typed right", "want 0; stroke 9 1; back 1; stroke 0 1; speed = 20000");
        Script.check("speed: the strokes ahead of the position stay right",
            "want 0; want 1; want 2; stroke 0 1; stroke 1 1; stroke 2 1; back 1; speed = 30000; back 1; speed = 12000");
        Script.check("speed: all of 40 strokes are mended",
            "want 1; ".repeat(40) + "stroke 1 1; ".repeat(40) + "back 1; ".repeat(39) + "speed = 759; back 1; speed = 0");
    }
}
