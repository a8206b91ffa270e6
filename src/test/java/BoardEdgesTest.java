/** The edges that the document names in promises 1 to 5 and of the board, each sentence with a test of its own. */
public final class BoardEdgesTest {
    public static void main(String[] args) {
        newObject();
        placesAtFirst();
        lettersOfPut();
        placesOfPut();
        putOnItselfAndOthers();
        fingers();
        beside();
        mirrors();
        Checks.finish();
    }

    private static void newObject() {
        Script.check("no letter is wanted", "wanted = 0; wantedAt 0 = Index; position = 0");
        Script.check("a lesson without wanted letters", "stroke 0 1 = State; back 1 = State");
        Script.check("the lesson has no time", "speed = 0; mended = 0");
        Script.check("no lesson has ended", "lessons = 0; speedOf 0 = Index; falls = 0");
        Script.check("the first day", "strokes = 0; endDay = 0");
        Script.check("counts are 0", "count 0 = 0; count 25 = 0");
        Script.check("shares are 0", "share 0 = 0; share 25 = 0");
        Script.check("times are 400", "time 0 = 400; time 25 = 400");
        Script.check("times of pairs are 400",
            "pairTime 0 0 = 400; pairTime 0 25 = 400; pairTime 25 0 = 400; pairTime 25 25 = 400");
        Script.check("no errors of kinds", "errors 0 = 0; errors 4 = 0");
        Script.check("no errors of fingers", "errorsOf 0 = 0; errorsOf 7 = 0");
        Script.check("the letters 0 to 3 are in", "isIn 0 = true; isIn 3 = true");
        Script.check("the others are not", "isIn 4 = false; isIn 25 = false");
        Script.check("no letter is good", "isGood 0 = false; isGood 3 = false; isGood 25 = false");
        Script.check("all letters are alike", "weakest = 0");
    }

    private static void placesAtFirst() {
        // A letter that is put on its way round the board finds each letter at its place, and the last four empty.
        for (int place = 0; place < 30; place++) {
            String due = place < 26 ? String.valueOf(place) : "NONE";
            Script.check("at first at the place " + place, "put 0 " + place % 10 + " " + place / 10 + " = " + due);
        }
    }

    private static void lettersOfPut() {
        Script.check("put: the least letter", "put 0 9 2 = NONE; mirror 20 = 0");
        Script.check("put: the greatest letter", "put 25 9 2 = NONE; mirror 20 = 25");
        Script.check("put: below the least letter", "put -1 0 0 = Index");
        Script.check("put: above the greatest letter", "put 26 0 0 = Index; put 26 6 2 = Index");
        Script.check("put: far below", "put " + Integer.MIN_VALUE + " 0 0 = Index");
        Script.check("put: far above", "put " + Integer.MAX_VALUE + " 0 0 = Index");
    }

    private static void placesOfPut() {
        Script.check("put: the least column", "put 25 0 1 = 10; finger 25 = 0");
        Script.check("put: the greatest column", "put 25 9 1 = 19; finger 25 = 7");
        Script.check("put: below the least column", "put 25 -1 1 = Index; put 25 -1 0 = Index");
        Script.check("put: above the greatest column", "put 25 10 1 = Index; put 25 10 0 = Index");
        Script.check("put: the least row", "put 25 5 0 = 5; areBeside 25 15 = true; areBeside 25 24 = false");
        Script.check("put: the greatest row", "put 0 5 2 = 25; areBeside 0 15 = true; areBeside 0 5 = false");
        Script.check("put: below the least row", "put 25 5 -1 = Index");
        Script.check("put: above the greatest row", "put 25 5 3 = Index; put 25 0 3 = Index");
        Script.check("put: the corners", "put 7 0 0 = 0; put 7 9 0 = 9; put 7 0 2 = 20; put 7 9 2 = NONE");
        Script.check("put: no column that another row makes good", "put 0 10 0 = Index; put 0 -10 2 = Index");
        Script.check("put: no row that another column makes good", "put 0 19 -1 = Index; put 0 -1 3 = Index");
        Script.check("put: far out", "put 0 " + Integer.MIN_VALUE + " 0 = Index; put 0 0 " + Integer.MIN_VALUE
            + " = Index; put 0 " + Integer.MAX_VALUE + " 0 = Index; put 0 0 " + Integer.MAX_VALUE + " = Index");
        // 10 * 429496730 wraps round to 4.
        Script.check("put: no row that wraps round", "put 0 0 429496730 = Index; put 0 0 -429496729 = Index");
    }

    private static void putOnItselfAndOthers() {
        Script.check("a letter onto itself stays", "put 7 7 0 = 7; put 7 7 0 = 7; mirror 2 = 7; put 8 7 0 = 7");
        Script.check("a letter that is there goes to the place that it had",
            "put 0 5 2 = 25; finger 25 = 0; mirror 9 = 25; finger 0 = 4; mirror 24 = 0");
        Script.check("a letter that leaves leaves an empty place", "put 0 9 2 = NONE; mirror 9 = NONE; put 1 0 0 = NONE");
        Script.check("a place that was empty is empty again", "put 0 9 2 = NONE; put 0 0 0 = NONE; put 1 9 2 = NONE");
        Script.check("two letters there and back", "put 0 1 0 = 1; put 0 0 0 = 1; put 0 0 0 = 0; put 1 1 0 = 1");
        Script.check("three letters round", "put 0 1 0 = 1; put 1 2 0 = 2; put 2 1 0 = 0; "
            + "put 0 0 0 = 0; put 2 1 0 = 2; put 1 2 0 = 1");
        Script.check("all empty places are taken one after the other",
            "put 0 6 2 = NONE; put 1 7 2 = NONE; put 2 8 2 = NONE; put 3 9 2 = NONE; "
                + "put 4 0 0 = NONE; put 4 1 0 = NONE; put 4 2 0 = NONE; put 4 3 0 = NONE; put 4 4 0 = NONE; put 4 4 0 = 4");
    }

    private static void fingers() {
        Script.check("finger: the least letter", "finger 0 = 0");
        Script.check("finger: the greatest letter", "finger 25 = 4");
        Script.check("finger: below the least letter", "finger -1 = Index");
        Script.check("finger: above the greatest letter", "finger 26 = Index");
        Script.check("finger: far out", "finger " + Integer.MIN_VALUE + " = Index; finger " + Integer.MAX_VALUE + " = Index");
        int[] fingers = {0, 1, 2, 3, 3, 4, 4, 5, 6, 7};
        for (int column = 0; column < 10; column++) {
            for (int row = 0; row < 3; row++) {
                Script.check("the finger of the column " + column + " in the row " + row,
                    "put 13 " + column + " " + row + "; finger 13 = " + fingers[column]);
            }
        }
    }

    private static void beside() {
        Script.check("areBeside: a letter and itself", "areBeside 0 0 = true; areBeside 25 25 = true");
        Script.check("areBeside: the columns differ by 1", "areBeside 11 12 = true; areBeside 12 11 = true");
        Script.check("areBeside: the columns differ by 2", "areBeside 11 13 = false; areBeside 13 11 = false");
        Script.check("areBeside: the rows differ by 1", "areBeside 1 11 = true; areBeside 11 1 = true");
        Script.check("areBeside: the rows differ by 2", "areBeside 1 21 = false; areBeside 21 1 = false");
        Script.check("areBeside: both differ by 1",
            "areBeside 11 0 = true; areBeside 11 2 = true; areBeside 11 20 = true; areBeside 11 22 = true");
        Script.check("areBeside: one by 1, one by 2", "areBeside 11 23 = false; areBeside 1 22 = false");
        Script.check("areBeside: both by 2", "areBeside 0 22 = false; areBeside 2 20 = false");
        Script.check("areBeside: not round the edge of a row", "areBeside 9 10 = false; areBeside 0 9 = false");
        Script.check("areBeside: not round the rows", "areBeside 0 20 = false; areBeside 19 20 = false");
        Script.check("areBeside: not by the numbers of the letters",
            "put 1 9 2; areBeside 0 1 = false; areBeside 1 18 = true; areBeside 1 19 = true; areBeside 1 25 = false");
        Script.check("areBeside: below the least letter", "areBeside -1 0 = Index; areBeside 0 -1 = Index");
        Script.check("areBeside: above the greatest letter", "areBeside 26 25 = Index; areBeside 25 26 = Index");
        Script.check("areBeside: no such letter and itself", "areBeside -1 -1 = Index; areBeside 26 26 = Index");
        Script.check("areBeside: far out", "areBeside " + Integer.MIN_VALUE + " 0 = Index; areBeside 0 "
            + Integer.MAX_VALUE + " = Index");
    }

    private static void mirrors() {
        Script.check("mirror: the outer columns", "mirror 0 = 9; mirror 9 = 0");
        Script.check("mirror: the inner columns", "mirror 4 = 5; mirror 5 = 4");
        Script.check("mirror: in the same row", "mirror 10 = 19; mirror 24 = 25; mirror 25 = 24");
        Script.check("mirror: none is there", "mirror 20 = NONE; mirror 21 = NONE; mirror 22 = NONE; mirror 23 = NONE");
        Script.check("mirror: one comes there and goes", "put 3 9 2; mirror 20 = 3; mirror 3 = 20; put 3 8 2; mirror 20 = NONE");
        Script.check("mirror: the place that a letter left", "put 3 9 2; mirror 6 = NONE");
        Script.check("mirror: below the least letter", "mirror -1 = Index");
        Script.check("mirror: above the greatest letter", "mirror 26 = Index");
        Script.check("mirror: far out", "mirror " + Integer.MIN_VALUE + " = Index; mirror " + Integer.MAX_VALUE + " = Index");
    }
}
