/** The edges of the figures, of errors and of days: promises 16 to 21, 29 and 30, each sentence with a test. */
public final class FigureEdgesTest {
    private static final String MIN = String.valueOf(Integer.MIN_VALUE);
    private static final String MAX = String.valueOf(Integer.MAX_VALUE);

    public static void main(String[] args) {
        count();
        timesRoundedDown();
        timesAtTheirEnds();
        sharesRoundedDown();
        sharesAtTheirEnds();
        lettersOfFigures();
        pairTime();
        pairsOfWantedLetters();
        errors();
        errorsOf();
        days();
        strokes();
        Checks.finish();
    }

    private static void count() {
        Script.check("count: 0 without a stroke", "want 5; count 5 = 0");
        Script.check("count: by a right stroke", "want 5; stroke 5 1; count 5 = 1");
        Script.check("count: by a wrong stroke, of the wanted letter", "want 5; stroke 6 1; count 5 = 1; count 6 = 0");
        Script.check("count: in all lessons", "want 5; stroke 5 1; end; want 5; stroke 5 1; count 5 = 2");
        Script.check("count: of the least letter", "want 0; stroke 0 1; count 0 = 1; count 1 = 0");
        Script.check("count: of the greatest letter", "want 25; stroke 25 1; count 25 = 1; count 24 = 0");
        Script.check("count: many", "want 5; " + "stroke 5 1; back 1; ".repeat(250) + "count 5 = 250");
    }

    private static void timesRoundedDown() {
        for (int millis = 400; millis <= 408; millis++) {
            Script.check("time: 3 times 400 and " + millis, "want 5; stroke 5 " + millis + "; time 5 = " + (1200 + millis) / 4);
        }
        Script.check("time: a wrong stroke, too", "want 5; stroke 6 404; time 5 = 401; time 6 = 400");
        Script.check("time: from 401 down", "want 5; stroke 5 404; want 5; stroke 5 400; time 5 = 400");
        Script.check("time: from 399 it stays", "want 5; stroke 5 399; time 5 = 399; want 5; stroke 5 402; time 5 = 399");
    }

    private static void timesAtTheirEnds() {
        Script.check("time: the least milliseconds", "want 5; stroke 5 1; time 5 = 300");
        Script.check("time: the greatest milliseconds", "want 5; stroke 5 5000; time 5 = 1550");
        Script.check("time: down to 1", "want 5; " + "stroke 5 1; back 1; ".repeat(40) + "time 5 = 1; stroke 5 4; time 5 = 1; "
            + "back 1; stroke 5 5; time 5 = 2");
        Script.check("time: up to 4997", "want 5; " + "stroke 5 5000; back 1; ".repeat(60) + "time 5 = 4997; stroke 5 5000; time 5 = 4997");
    }

    private static void sharesRoundedDown() {
        Script.check("share: 10000 by 8", Script.typed(5, "w", 1) + "share 5 = 1250");
        Script.check("share: 18750 by 8", Script.typed(5, "ww", 1) + "share 5 = 2343");
        Script.check("share: 8750 by 8", Script.typed(5, "wr", 1) + "share 5 = 1093");
        Script.check("share: 7651 by 8", Script.typed(5, "wrr", 1) + "share 5 = 956");
        Script.check("share: 6692 by 8", Script.typed(5, "wrrr", 1) + "share 5 = 836");
        Script.check("share: 17651 by 8", Script.typed(5, "wrw", 1) + "share 5 = 2206");
        Script.check("share: of the wanted letter", "want 5; stroke 6 1; share 5 = 1250; share 6 = 0");
    }

    private static void sharesAtTheirEnds() {
        Script.check("share: 0 by right strokes", Script.typed(5, "rrr", 1) + "share 5 = 0");
        Script.check("share: back to 0", "want 5; stroke 6 1; back 1; " + "stroke 5 1; back 1; ".repeat(60) + "share 5 = 0");
        // Rounded down, no share reaches 10000.
        Script.check("share: never above 9993", "want 5; " + "stroke 6 1; back 1; ".repeat(60) + "share 5 = 9993; stroke 6 1; share 5 = 9993");
        Script.check("share: a right stroke then", "want 5; " + "stroke 6 1; back 1; ".repeat(60) + "stroke 5 1; share 5 = 8743");
    }

    private static void lettersOfFigures() {
        for (String call : new String[] {"count", "time", "share"}) {
            String first = call.equals("time") ? "400" : "0";
            Script.check(call + ": the least letter", call + " 0 = " + first);
            Script.check(call + ": the greatest letter", call + " 25 = " + first);
            Script.check(call + ": below the least letter", call + " -1 = Index");
            Script.check(call + ": above the greatest letter", call + " 26 = Index");
            Script.check(call + ": far out", call + " " + MIN + " = Index; " + call + " " + MAX + " = Index");
        }
    }

    private static void pairTime() {
        Script.check("pairTime: the least letters", "pairTime 0 0 = 400");
        Script.check("pairTime: the greatest letters", "pairTime 25 25 = 400");
        Script.check("pairTime: below the least first letter", "pairTime -1 0 = Index; pairTime -1 26 = Index");
        Script.check("pairTime: above the greatest first letter", "pairTime 26 0 = Index; pairTime 26 -1 = Index");
        Script.check("pairTime: below the least second letter", "pairTime 0 -1 = Index; pairTime 25 -1 = Index");
        Script.check("pairTime: above the greatest second letter", "pairTime 0 26 = Index; pairTime 25 26 = Index");
        Script.check("pairTime: far out", "pairTime " + MIN + " 0 = Index; pairTime 0 " + MAX + " = Index; pairTime " + MAX
            + " " + MIN + " = Index");
        Script.check("pairTime: of the least and the greatest letter",
            "want 0; want 25; stroke 0 1; stroke 25 800; pairTime 0 25 = 500; pairTime 25 0 = 400; pairTime 1 0 = 400");
        Script.check("pairTime: twice the greatest", "want 25; want 25; stroke 25 1; stroke 25 800; pairTime 25 25 = 500");
        Script.check("pairTime: twice the least", "want 0; want 0; stroke 0 1; stroke 0 800; pairTime 0 0 = 500; pairTime 0 1 = 400");
        for (int millis = 400; millis <= 404; millis++) {
            Script.check("pairTime: 3 times 400 and " + millis, "want 5; want 6; stroke 5 1; stroke 6 " + millis
                + "; pairTime 5 6 = " + (1200 + millis) / 4);
        }
        Script.check("pairTime: down to 1 and up again", "want 5; want 6; stroke 5 1; " + "stroke 6 1; back 1; ".repeat(40)
            + "pairTime 5 6 = 1; " + "stroke 6 5000; back 1; ".repeat(60) + "pairTime 5 6 = 4997");
    }

    private static void pairsOfWantedLetters() {
        Script.check("pairTime: the position is 0", "want 5; stroke 5 800; pairTime 5 5 = 400; pairTime 0 5 = 400");
        Script.check("pairTime: the position is 1", "want 5; want 6; stroke 5 1; stroke 6 800; pairTime 5 6 = 500; pairTime 6 5 = 400");
        Script.check("pairTime: the position is 39", "want 1; ".repeat(38) + "want 2; want 3; " + "stroke 1 1; ".repeat(39)
            + "stroke 3 800; pairTime 2 3 = 500");
        Script.check("pairTime: the position is 0 again", "want 5; want 6; stroke 5 1; back 1; stroke 5 800; pairTime 5 5 = 400; "
            + "pairTime 5 6 = 400; pairTime 6 5 = 400");
        Script.check("pairTime: a wrong stroke", "want 5; want 6; stroke 5 1; stroke 9 800; pairTime 5 6 = 500; pairTime 5 9 = 400");
        Script.check("pairTime: the wanted letter before, not the typed one",
            "want 5; want 6; stroke 9 1; stroke 6 800; pairTime 5 6 = 500; pairTime 9 6 = 400");
        Script.check("pairTime: not across lessons", "want 5; stroke 5 1; end; want 6; stroke 6 800; pairTime 5 6 = 400");
        Script.check("pairTime: across days", "want 5; want 6; stroke 5 1; endDay; stroke 6 800; pairTime 5 6 = 500");
        Script.check("pairTime: stays at the end of a day", "want 5; want 6; stroke 5 1; stroke 6 800; endDay; pairTime 5 6 = 500");
    }

    private static void errors() {
        Script.check("errors: the least kind", "errors 0 = 0");
        Script.check("errors: the greatest kind", "errors 4 = 0");
        Script.check("errors: below the least kind", "errors -1 = Argument");
        Script.check("errors: above the greatest kind", "errors 5 = Argument");
        Script.check("errors: far out", "errors " + MIN + " = Argument; errors " + MAX + " = Argument");
        Script.check("errors: a right stroke is none",
            "want 0; stroke 0 1; errors 0 = 0; errors 1 = 0; errors 2 = 0; errors 3 = 0; errors 4 = 0; errorsOf 0 = 0");
        String[] wrong = {"want 7; want 0; stroke 7 1; stroke 7 1", "want 0; want 7; stroke 7 1", "want 0; stroke 1 1",
            "want 0; stroke 9 1", "want 0; stroke 25 1"};
        for (int kind = 0; kind < 5; kind++) {
            StringBuilder text = new StringBuilder(wrong[kind]);
            for (int other = 0; other < 5; other++) {
                text.append("; errors ").append(other).append(" = ").append(other == kind ? 1 : 0);
            }
            Script.check("errors: one of the kind " + kind, text.toString());
        }
        Script.check("errors: in all lessons", "want 0; stroke 9 1; end; want 0; stroke 9 1; end; errors 3 = 2; errorsOf 0 = 2");
        Script.check("errors: of all days", "want 0; stroke 9 1; endDay; errors 3 = 1; errorsOf 0 = 1");
        Script.check("errors: a refused stroke is none",
            "want 0; stroke 9 5001 = Argument; stroke 26 1 = Index; errors 3 = 0; errors 4 = 0; errorsOf 0 = 0");
        Script.check("errors: no wanted letter, no error", "stroke 9 1 = State; errors 3 = 0; errors 4 = 0; errorsOf 0 = 0");
    }

    private static void errorsOf() {
        Script.check("errorsOf: the least finger", "errorsOf 0 = 0");
        Script.check("errorsOf: the greatest finger", "errorsOf 7 = 0");
        Script.check("errorsOf: below the least finger", "errorsOf -1 = Argument");
        Script.check("errorsOf: above the greatest finger", "errorsOf 8 = Argument; errorsOf 9 = Argument");
        Script.check("errorsOf: far out", "errorsOf " + MIN + " = Argument; errorsOf " + MAX + " = Argument");
        for (int column = 0; column < 10; column++) {
            int finger = "0123344567".charAt(column) - '0';
            StringBuilder text = new StringBuilder("want " + column + "; stroke 25 1");
            for (int other = 0; other < 8; other++) {
                text.append("; errorsOf ").append(other).append(" = ").append(other == finger ? 1 : 0);
            }
            Script.check("errorsOf: a wanted letter of the column " + column, text.toString());
        }
        Script.check("errorsOf: of the wanted letter, not the typed one", "want 0; stroke 9 1; errorsOf 0 = 1; errorsOf 7 = 0");
        Script.check("errorsOf: the finger as it was", "want 0; stroke 25 1; put 0 9 2; errorsOf 0 = 1; errorsOf 7 = 0");
        Script.check("errorsOf: the finger as it is now", "put 0 9 2; want 0; stroke 25 1; errorsOf 0 = 0; errorsOf 7 = 1");
        Script.check("errorsOf: the finger at the stroke, not when it was wanted",
            "want 0; put 0 9 2; stroke 25 1; errorsOf 0 = 0; errorsOf 7 = 1");
    }

    private static void days() {
        Script.check("endDay: no stroke", "endDay = 0; endDay = 0");
        Script.check("endDay: a stroke", "want 0; stroke 0 1; endDay = 1; endDay = 0; strokes = 0");
        Script.check("endDay: the strokes of the new day only",
            "want 0; want 0; want 0; stroke 0 1; endDay = 1; stroke 0 1; stroke 0 1; endDay = 2");
        int[] halves = {0, 0, 1, 1, 2, 2, 3, 3};
        for (int count = 0; count < halves.length; count++) {
            Script.check("endDay: half of " + count, Script.typed(5, "r".repeat(count), 1) + "endDay; count 5 = " + halves[count]);
        }
        Script.check("endDay: of each letter",
            Script.typed(0, "rr", 1) + Script.typed(25, "rrr", 1) + "endDay; count 0 = 1; count 25 = 1; count 1 = 0");
        Script.check("endDay: also of letters that are not in", Script.typed(4, "rr", 1) + "endDay; count 4 = 1; isIn 4 = false");
        Script.check("endDay: down to 0", Script.typed(5, "rrrrr", 1) + "endDay; endDay; count 5 = 1; endDay; count 5 = 0; endDay; count 5 = 0");
        Script.check("endDay: times and shares stay", "want 5; stroke 6 800; endDay; time 5 = 500; share 5 = 1250");
        Script.check("endDay: the lesson goes on", "want 5; want 6; stroke 5 1; back 1; stroke 5 8; endDay; wanted = 2; position = 1; "
            + "mended = 1; speed = 6000; lessons = 0; wantedAt 1 = 6; stroke 6 1 = NONE; stroke 6 1 = State");
        Script.check("endDay: a letter that was good by a count of 3", Script.typed(5, "rrr", 1) + "isGood 5 = true; endDay; isGood 5 = false");
        Script.check("endDay: a letter that is good by a count of 6", Script.typed(5, "rrrrrr", 1) + "endDay; isGood 5 = true");
        Script.check("endDay: of a full row of lessons", "want 0; stroke 0 1; " + "end; ".repeat(100) + "endDay = 1; lessons = 100");
    }

    private static void strokes() {
        Script.check("strokes: none", "strokes = 0; want 0; strokes = 0");
        Script.check("strokes: right and wrong ones", "want 0; want 1; stroke 0 1; stroke 25 1; strokes = 2");
        Script.check("strokes: going back is none", "want 0; stroke 0 1; back 1; strokes = 1");
        Script.check("strokes: a mended one and the one that mends", "want 0; stroke 9 1; back 1; stroke 0 1; strokes = 2");
        Script.check("strokes: in all lessons", "want 0; stroke 0 1; end; want 0; stroke 0 1; strokes = 2; end; strokes = 2");
        Script.check("strokes: not those of the day before", "want 0; want 1; stroke 0 1; endDay; strokes = 0; stroke 1 1; strokes = 1");
        Script.check("strokes: refused ones are none",
            "stroke 0 1 = State; want 0; stroke 26 1 = Index; stroke 0 0 = Argument; strokes = 0");
        Script.check("strokes: as many as calls allow", "want 0; " + "stroke 0 1; back 1; ".repeat(255) + "strokes = 255");
    }
}
