/** The edges of wishes, of good letters and of the weakest one: promises 22 to 25, each sentence with a test. */
public final class LettersInEdgesTest {
    private static final String MIN = String.valueOf(Integer.MIN_VALUE);
    private static final String MAX = String.valueOf(Integer.MAX_VALUE);
    private static final String JUST_1000 = "wwrrrrrrrrwrrrrr";
    private static final String JUST_1001 = "wrwrrwrwrrrrrrrrr";
    /** The letter 5 with a time of 300 and a share of 1000 then. */
    private static final String OF_300_AND_1000 = Script.typed(5, JUST_1000, 300);

    public static void main(String[] args) {
        wishedTimes();
        wishedShares();
        wishesThatAreRefused();
        lettersOfQuestions();
        isIn();
        goodByCount();
        goodByTime();
        goodByShare();
        weakest();
        Checks.finish();
    }

    /** A letter with a time of 1 and a share of 0, so that it is good for each wish. */
    private static String best(int letter) {
        return "want " + letter + "; " + ("stroke " + letter + " 1; back 1; ").repeat(40) + "end; ";
    }

    /** A letter with the greatest time and the greatest share that there can be. */
    private static String worst(int letter) {
        return "want " + letter + "; " + ("stroke 13 5000; back 1; ").repeat(60) + "end; ";
    }

    private static void wishedTimes() {
        Script.check("wish: the least time", best(0) + "wish 1 0 = nothing; time 0 = 1; isGood 0 = true");
        Script.check("wish: the least time, a letter with a time of 2",
            best(0) + "want 0; stroke 0 5; time 0 = 2; wish 1 0; isGood 0 = false; wish 2 0; isGood 0 = true");
        Script.check("wish: the greatest time", worst(0) + "wish 5000 10000 = nothing; time 0 = 4997; isGood 0 = true");
        Script.check("wish: the time itself", Script.thrice(5, 5) + "wish 400 0; isGood 5 = true");
        Script.check("wish: a millisecond less", Script.thrice(5, 5) + "wish 399 0; isGood 5 = false");
        Script.check("wish: the time that was wished last", Script.thrice(5, 5) + "wish 400 0; wish 399 0; isGood 5 = false");
    }

    private static void wishedShares() {
        Script.check("wish: the least share", "wish 5000 0 = nothing; " + Script.typed(5, "rrr", 1) + "isGood 5 = true");
        Script.check("wish: the least share, a letter with a share of more", "wish 5000 0; " + Script.typed(5, "rrw", 1) + "isGood 5 = false");
        Script.check("wish: the greatest share", worst(0) + "share 0 = 9993; wish 5000 10000 = nothing; isGood 0 = true; wish 5000 9992; isGood 0 = false");
        Script.check("wish: the share itself", Script.typed(5, "wrr", 1) + "share 5 = 956; wish 5000 956; isGood 5 = true");
        Script.check("wish: a ten thousandth less", Script.typed(5, "wrr", 1) + "wish 5000 955; isGood 5 = false");
        Script.check("wish: the share that was wished last", Script.typed(5, "wrr", 1) + "wish 5000 956; wish 5000 955; isGood 5 = false");
        Script.check("wish: stays at the end of a lesson", Script.typed(5, "www", 1) + "wish 5000 10000; end; isGood 5 = true");
        Script.check("wish: stays at the end of a day", Script.typed(5, "wwwwww", 1) + "wish 5000 10000; endDay; isGood 5 = true");
    }

    private static void wishesThatAreRefused() {
        Script.check("wish: below the least time", "wish 0 0 = Argument; wish -1 0 = Argument");
        Script.check("wish: above the greatest time", "wish 5001 10000 = Argument");
        Script.check("wish: below the least share", "wish 1 -1 = Argument");
        Script.check("wish: above the greatest share", "wish 5000 10001 = Argument");
        Script.check("wish: both out of range", "wish 0 -1 = Argument; wish 5001 10001 = Argument; wish 0 10001 = Argument");
        Script.check("wish: times far out", "wish " + MIN + " 0 = Argument; wish " + MAX + " 0 = Argument");
        Script.check("wish: shares far out", "wish 1 " + MIN + " = Argument; wish 1 " + MAX + " = Argument");
        Script.check("wish: a refused time leaves the wished share", OF_300_AND_1000 + "isGood 5 = true; wish 0 999 = Argument; "
            + "isGood 5 = true; wish 5001 999 = Argument; isGood 5 = true");
        Script.check("wish: a refused share leaves the wished time", OF_300_AND_1000 + "isGood 5 = true; wish 299 -1 = Argument; "
            + "isGood 5 = true; wish 299 10001 = Argument; isGood 5 = true");
    }

    private static void lettersOfQuestions() {
        for (String call : new String[] {"isIn", "isGood"}) {
            Script.check(call + ": the least letter", call + " 0 = " + call.equals("isIn"));
            Script.check(call + ": the greatest letter", call + " 25 = false");
            Script.check(call + ": below the least letter", call + " -1 = Index");
            Script.check(call + ": above the greatest letter", call + " 26 = Index");
            Script.check(call + ": far out", call + " " + MIN + " = Index; " + call + " " + MAX + " = Index");
        }
    }

    private static void isIn() {
        Script.check("isIn: the last one that is at first", "isIn 3 = true");
        Script.check("isIn: the first one that is not", "isIn 4 = false");
        Script.check("isIn: a wanted letter need not be", "want 4; stroke 4 1; isIn 4 = false");
        Script.check("isIn: a good letter need not be", Script.typed(4, "rrr", 1) + "isGood 4 = true; isIn 4 = false");
    }

    private static void goodByCount() {
        Script.check("isGood: a count of 0", "wish 5000 10000; isGood 0 = false");
        Script.check("isGood: a count of 2", Script.typed(5, "rr", 1) + "isGood 5 = false");
        Script.check("isGood: a count of 3", Script.typed(5, "rrr", 1) + "isGood 5 = true");
        Script.check("isGood: a count of 2 after a day", Script.typed(5, "rrrrr", 1) + "endDay; isGood 5 = false");
        Script.check("isGood: a count of 3 after a day", Script.typed(5, "rrrrrr", 1) + "endDay; isGood 5 = true");
    }

    private static void goodByTime() {
        String exact = "want 5; stroke 5 1; want 5; stroke 5 300; want 5; stroke 5 300; ";
        Script.check("isGood: a time of 300", exact + "time 5 = 300; isGood 5 = true");
        Script.check("isGood: a time of 301", exact + "want 5; stroke 5 304; time 5 = 301; isGood 5 = false");
        Script.check("isGood: rounded down to 300", exact + "want 5; stroke 5 303; time 5 = 300; isGood 5 = true");
    }

    private static void goodByShare() {
        Script.check("isGood: a share of 1000", Script.typed(5, JUST_1000, 1) + "share 5 = 1000; isGood 5 = true");
        Script.check("isGood: a share of 1001", Script.typed(5, JUST_1001, 1) + "share 5 = 1001; isGood 5 = false");
        Script.check("isGood: a share of 0", Script.typed(5, "rrr", 1) + "share 5 = 0; isGood 5 = true");
        Script.check("isGood: a time of 300 and a share of 1000", OF_300_AND_1000 + "time 5 = 300; share 5 = 1000; isGood 5 = true");
    }

    private static void weakest() {
        Script.check("weakest: all alike, the lowest", "weakest = 0");
        Script.check("weakest: of several alike the lowest", Script.typed(0, "r", 1) + "weakest = 1");
        Script.check("weakest: a millisecond more", "want 3; stroke 3 404; weakest = 3");
        Script.check("weakest: a millisecond less", "want 0; stroke 0 399; time 0 = 399; weakest = 1");
        Script.check("weakest: the share comes first", "want 0; stroke 0 5000; want 3; stroke 25 1; weakest = 3");
        Script.check("weakest: a share of 1 more",
            Script.typed(1, JUST_1000, 5000) + "end; " + Script.typed(2, JUST_1001, 1) + "share 1 = 1000; share 2 = 1001; weakest = 2");
        Script.check("weakest: the same share, a time of more",
            "want 1; stroke 25 404; want 2; stroke 25 408; want 3; stroke 25 408; weakest = 2");
        Script.check("weakest: the same share and time, the lowest", "want 3; stroke 25 404; want 2; stroke 25 404; weakest = 2");
        Script.check("weakest: no letter that is not in", "want 4; stroke 25 5000; weakest = 0");
        Script.check("weakest: one that was let in", Script.letInUpTo(4) + "want 4; stroke 25 5000; weakest = 4");
        Script.check("weakest: none that was taken out", Script.letInUpTo(4) + Script.typed(4, "wwwwwww", 1)
            + "weakest = 4; end; weakest = 0");
        Script.check("weakest: the last letter of all", Script.letInUpTo(25) + "want 25; stroke 0 5000; weakest = 25");
        Script.check("weakest: the first letter of all that are in", Script.letInUpTo(25) + "want 0; stroke 25 5000; weakest = 0");
    }
}
