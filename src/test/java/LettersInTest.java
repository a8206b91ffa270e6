/** Promises 22 to 25 and what promise 15 says of letters: wishes, good and weak letters, in and out. */
public final class LettersInTest {
    public static void main(String[] args) {
        good();
        wishes();
        weakest();
        lettingIn();
        takingOut();
        takenOutAndLetInAgain();
        Checks.finish();
    }

    private static void good() {
        TypingCoach coach = new TypingCoach();
        Checks.practise(coach, 20, 1, 2);
        Checks.due("count 2", coach.isGood(20), false);
        Checks.practise(coach, 20, 1, 1);
        Checks.due("count 3, also if it is not in", coach.isGood(20), true);
        Checks.practise(coach, 20, 5000, 1);
        Checks.due("too slow", coach.isGood(20), false);
        TypingCoach edge = new TypingCoach();
        Checks.practise(edge, 0, 1, 1);
        Checks.practise(edge, 0, 300, 2);
        Checks.due("time", edge.time(0), 300);
        Checks.due("the wished time itself", edge.isGood(0), true);
        Checks.practise(edge, 0, 304, 1);
        Checks.due("time", edge.time(0), 301);
        Checks.due("a millisecond more", edge.isGood(0), false);
        TypingCoach shares = new TypingCoach();
        Checks.fail(shares, 0, 25, 1);
        Checks.practise(shares, 0, 1, 2);
        Checks.due("share", shares.share(0), 956);
        Checks.due("the share is at most 1000", shares.isGood(0), true);
        Checks.fail(shares, 0, 25, 1);
        Checks.due("share", shares.share(0), 2086);
        Checks.due("the share is more than 1000", shares.isGood(0), false);
        TypingCoach exact = new TypingCoach();
        Checks.follow(exact, 0, "wwrrrrrrrrwrrrrr");
        Checks.due("share", exact.share(0), 1000);
        Checks.due("the wished share itself", exact.isGood(0), true);
        Checks.follow(exact, 1, "wrwrrwrwrrrrrrrrr");
        Checks.due("share", exact.share(1), 1001);
        Checks.due("a ten thousandth more", exact.isGood(1), false);
        Checks.follow(exact, 1, "r");
        Checks.due("rounded down", exact.share(1), 875);
    }

    private static void wishes() {
        TypingCoach coach = new TypingCoach();
        Checks.fail(coach, 0, 25, 1);
        Checks.practise(coach, 0, 2, 2);
        int time = coach.time(0);
        int share = coach.share(0);
        coach.wish(time, share);
        Checks.due("just as wished", coach.isGood(0), true);
        coach.wish(time - 1, share);
        Checks.due("too slow", coach.isGood(0), false);
        coach.wish(time, share - 1);
        Checks.due("too wrong", coach.isGood(0), false);
        coach.wish(5000, 10000);
        Checks.due("the greatest wish", coach.isGood(0), true);
        coach.wish(1, 0);
        Checks.due("the least wish", coach.isGood(0), false);
        coach.wish(5000, 10000);
        coach.end();
        Checks.due("a wish stays", coach.isGood(0), true);
        Checks.due("but counts are needed", coach.isGood(1), false);
    }

    private static void weakest() {
        TypingCoach coach = new TypingCoach();
        Checks.due("all the same", coach.weakest(), 0);
        Checks.practise(coach, 0, 1, 1);
        Checks.due("the greatest time, the lowest", coach.weakest(), 1);
        Checks.practise(coach, 3, 5000, 1);
        Checks.due("the greatest time", coach.weakest(), 3);
        Checks.fail(coach, 2, 25, 1);
        Checks.due("the greatest share", coach.weakest(), 2);
        Checks.fail(coach, 1, 25, 1);
        Checks.due("of several the lowest", coach.weakest(), 1);
        coach.want(2);
        coach.stroke(2, 5000);
        coach.want(1);
        coach.stroke(1, 4000);
        Checks.due("of several the greatest time", coach.weakest(), 2);
        Checks.fail(coach, 7, 25, 4);
        Checks.due("no letter that is not in", coach.weakest(), 2);
    }

    private static void lettingIn() {
        TypingCoach coach = new TypingCoach();
        coach.wish(5000, 10000);
        for (int letter = 0; letter < 3; letter++) {
            Checks.practise(coach, letter, 400, 3);
        }
        Checks.due("not all are good", coach.end(), -1);
        Checks.practise(coach, 3, 400, 3);
        Checks.due("not before the end", coach.isIn(4), false);
        for (int letter = 4; letter < 26; letter++) {
            Checks.due("all are good", coach.end(), letter);
            Checks.due("it is in", coach.isIn(letter), true);
            Checks.due("no other is", letter < 25 && coach.isIn(letter + 1), false);
            Checks.due("the new one is not good", coach.end(), -1);
            Checks.practise(coach, letter, 400, 3);
        }
        Checks.due("all are in", coach.end(), -1);
        for (int lazy = 0; lazy < 4; lazy++) {
            TypingCoach three = new TypingCoach();
            for (int letter = 0; letter < 4; letter++) {
                Checks.practise(three, letter, 1, letter == lazy ? 2 : 3);
            }
            Checks.due("all but " + lazy + " are good", three.end(), -1);
            Checks.practise(three, lazy, 1, 1);
            Checks.due("all are good", three.end(), 4);
        }
        TypingCoach known = new TypingCoach();
        known.wish(5000, 10000);
        for (int letter = 0; letter < 5; letter++) {
            Checks.practise(known, letter, 400, 3);
        }
        Checks.due("4 is let in", known.end(), 4);
        Checks.due("its figures stay", known.count(4), 3);
        Checks.due("so 5 is let in", known.end(), 5);
        known.endDay();
        Checks.due("none is good the next day", known.end(), -1);
    }

    /** A coach with the letters 0 to 5 in, all of them good for the wish, 0 to 3 for good. */
    private static TypingCoach withSixLetters() {
        TypingCoach coach = new TypingCoach();
        coach.wish(5000, 10000);
        for (int letter = 0; letter < 4; letter++) {
            Checks.practise(coach, letter, 400, 3);
        }
        coach.end();
        Checks.practise(coach, 4, 400, 3);
        coach.end();
        return coach;
    }

    private static void takingOut() {
        TypingCoach coach = withSixLetters();
        Checks.due("5 is in", coach.isIn(5), true);
        Checks.fail(coach, 0, 25, 6);
        Checks.fail(coach, 4, 25, 6);
        Checks.fail(coach, 5, 25, 6);
        Checks.fail(coach, 20, 25, 6);
        Checks.due("share", coach.share(5), 5510);
        Checks.due("not before the end", coach.isIn(5), true);
        int pair = coach.pairTime(5, 5);
        Checks.due("none is let in", coach.end(), -1);
        for (int letter = 4; letter < 6; letter++) {
            Checks.due("it is out", coach.isIn(letter), false);
            Checks.due("count", coach.count(letter), 0);
            Checks.due("time", coach.time(letter), 400);
            Checks.due("share", coach.share(letter), 0);
        }
        Checks.due("times of pairs stay", coach.pairTime(5, 5), pair);
        Checks.due("0 is never taken out", coach.isIn(0), true);
        Checks.due("its figures stay", coach.count(0), 9);
        Checks.due("its share stays", coach.share(0), 5510);
        Checks.due("a letter that is not in is not taken out", coach.count(20), 6);
        Checks.due("errors stay", coach.errors(TypingCoach.DOUBLED) > 0, true);
        Checks.due("the lowest is let in again", coach.end(), 4);
    }

    private static void takenOutAndLetInAgain() {
        TypingCoach exact = withSixLetters();
        Checks.follow(exact, 4, "wwwwrrwwrwrw");
        Checks.due("share", exact.share(4), 5000);
        Checks.follow(exact, 5, "wrrrrwwrwww");
        Checks.due("share", exact.share(5), 5001);
        Checks.due("5 is taken out", exact.end(), -1);
        Checks.due("a share of 5000 stays in", exact.isIn(4), true);
        Checks.due("a share of 5001 does not", exact.isIn(5), false);
        TypingCoach edges = withSixLetters();
        Checks.fail(edges, 4, 25, 5);
        Checks.due("share", edges.share(4), 4869);
        Checks.due("the share is at most 5000, 5 is not good", edges.end(), -1);
        Checks.due("4 stays", edges.isIn(4), true);
        Checks.fail(edges, 5, 25, 6);
        edges.endDay();
        Checks.due("count", edges.count(5), 3);
        Checks.due("share", edges.share(5), 5510);
        edges.end();
        Checks.due("a count of 3 is enough", edges.isIn(5), false);
        Checks.due("4 stays", edges.isIn(4), true);
        TypingCoach young = withSixLetters();
        Checks.fail(young, 5, 25, 6);
        Checks.fail(young, 4, 25, 6);
        young.endDay();
        Checks.fail(young, 4, 25, 1);
        young.endDay();
        Checks.due("count of 5", young.count(5), 1);
        Checks.due("count of 4", young.count(4), 2);
        young.end();
        Checks.due("a count of 1 is not enough", young.isIn(5), true);
        Checks.due("a count of 2 is not enough", young.isIn(4), true);
        TypingCoach middle = withSixLetters();
        Checks.practise(middle, 5, 1, 3);
        Checks.fail(middle, 4, 25, 6);
        Checks.due("4 is taken out, none is let in", middle.end(), -1);
        Checks.due("5 stays", middle.isIn(5), true);
        Checks.due("4 is let in", middle.end(), 4);
    }
}
