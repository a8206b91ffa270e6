import java.util.ArrayList;
import java.util.Arrays;
import java.util.List;
import java.util.Random;

/** Long runs of calls, right and wrong ones, compared with the model call by call. All promises. */
public final class ModelTest {
    private static final int RUNS = 600;
    private static final int CALLS = 512;
    private static final int QUESTIONS = 200;
    private static final int KINDS_OF_CALLS = 29;
    private static final int STROKE = 9;
    private static final int[] EDGES = {
        -1, 0, 1, 2, 3, 4, 5, 7, 8, 9, 10, 25, 26, 39, 40, 41, 99, 100, 4999, 5000, 5001, 9999, 10000, 10001,
        Integer.MIN_VALUE, Integer.MAX_VALUE, Integer.MIN_VALUE + 1, 675, 676,
    };

    public static void main(String[] args) {
        for (int seed = 0; seed < RUNS; seed++) {
            run(seed);
        }
        Checks.finish();
    }

    private static void run(int seed) {
        Random random = new Random(seed);
        TypingCoach coach = new TypingCoach();
        Model model = new Model();
        int[] weights = weights(seed % 4);
        boolean isCareful = seed % 2 == 0;
        int[][] calls = new int[CALLS][];
        for (int k = 0; k < CALLS; k++) {
            int number = drawn(weights, random);
            int[] call = {number, 0, 0, 0};
            for (int place = 0; place < 3; place++) {
                call[place + 1] = argument(number, place, random, isCareful && random.nextInt(30) > 0);
            }
            if (number == STROKE && model.due() != TypingCoach.NONE && random.nextInt(8) > seed % 6) {
                call[1] = model.due();
            }
            calls[k] = call;
            String told = "run " + seed + ", call " + k + ": " + Arrays.toString(call);
            Checks.due(told, answer(coach, call), answer(model, call));
        }
        compareAll(seed, Arrays.copyOf(calls, CALLS - QUESTIONS));
    }

    /** How often each call is made: all alike, or runs that type, that end lessons, that lay the board. */
    private static int[] weights(int style) {
        int[] weights = new int[KINDS_OF_CALLS];
        Arrays.fill(weights, 2);
        int[][] often = {{}, {4, 5, STROKE, STROKE, STROKE}, {4, STROKE, 13, 20}, {0, 4, 5, STROKE, STROKE, 10}};
        for (int number : often[style]) {
            weights[number] += 25;
        }
        if (style == 1) {
            weights[13] = 1;
        }
        return weights;
    }

    private static int drawn(int[] weights, Random random) {
        int sum = 0;
        for (int weight : weights) {
            sum += weight;
        }
        int left = random.nextInt(sum);
        int number = 0;
        while (left >= weights[number]) {
            left -= weights[number];
            number++;
        }
        return number;
    }

    private static int argument(int number, int place, Random random, boolean isCareful) {
        if (!isCareful && random.nextInt(3) == 0) {
            return EDGES[random.nextInt(EDGES.length)];
        }
        switch (number) {
            case 0: return random.nextInt(place == 0 ? 26 : place == 1 ? 10 : 3);
            case 5: return 1 + random.nextInt(random.nextInt(6) == 0 ? 40 : 6);
            case 7: case 25: return random.nextInt(6);
            case STROKE: return place == 0 ? random.nextInt(random.nextBoolean() ? 26 : 6) : millis(random);
            case 10: return millis(random);
            case 18: return random.nextInt(5);
            case 19: return random.nextInt(8);
            case 20: return place == 0 ? 1 + random.nextInt(5000) : random.nextInt(10001);
            default: return random.nextInt(random.nextBoolean() ? 26 : 5);
        }
    }

    private static int millis(Random random) {
        return 1 + random.nextInt(random.nextBoolean() ? 5000 : 300);
    }

    /** All answers after these calls. Each coach is asked some questions only: after 512 calls it is free. */
    private static void compareAll(int seed, int[][] calls) {
        List<int[]> questions = questions();
        Model model = new Model();
        for (int[] call : calls) {
            answer(model, call);
        }
        TypingCoach coach = null;
        for (int k = 0; k < questions.size(); k++) {
            if (k % QUESTIONS == 0) {
                coach = new TypingCoach();
                for (int[] call : calls) {
                    answer(coach, call);
                }
            }
            int[] question = questions.get(k);
            String told = "run " + seed + ", at last: " + Arrays.toString(question);
            Checks.due(told, answer(coach, question), answer(model, question));
        }
    }

    private static List<int[]> questions() {
        List<int[]> questions = new ArrayList<>();
        for (int number : new int[] {1, 3, 7, 14, 15, 16, 18, 19, 21, 22, 25}) {
            for (int a = -1; a < 101; a++) {
                questions.add(new int[] {number, a, 0, 0});
            }
        }
        for (int a = 0; a < 26; a++) {
            for (int b = 0; b < 26; b++) {
                questions.add(new int[] {2, a, b, 0});
                questions.add(new int[] {17, a, b, 0});
            }
        }
        return questions;
    }

    private static Object answer(Model model, int[] call) {
        return model.call(call[0], call[1], call[2], call[3]);
    }

    private static Object answer(TypingCoach coach, int[] call) {
        Object[] answer = new Object[1];
        String thrown = Checks.nameOfThrown(() -> answer[0] = call(coach, call[0], call[1], call[2], call[3]));
        return thrown.equals("nothing") ? answer[0] : thrown;
    }

    private static Object call(TypingCoach coach, int number, int a, int b, int c) {
        switch (number) {
            case 0: return coach.put(a, b, c);
            case 1: return coach.finger(a);
            case 2: return coach.areBeside(a, b);
            case 3: return coach.mirror(a);
            case 4: return coach.want(a);
            case 5: return coach.drill(a);
            case 6: return coach.wanted();
            case 7: return coach.wantedAt(a);
            case 8: return coach.position();
            case STROKE: return coach.stroke(a, b);
            case 10: return coach.back(a);
            case 11: return coach.speed();
            case 12: return coach.mended();
            case 13: return coach.end();
            case 14: return coach.count(a);
            case 15: return coach.time(a);
            case 16: return coach.share(a);
            case 17: return coach.pairTime(a, b);
            case 18: return coach.errors(a);
            case 19: return coach.errorsOf(a);
            case 20: coach.wish(a, b); return "nothing";
            case 21: return coach.isIn(a);
            case 22: return coach.isGood(a);
            case 23: return coach.weakest();
            case 24: return coach.lessons();
            case 25: return coach.speedOf(a);
            case 26: return coach.falls();
            case 27: return coach.endDay();
            default: return coach.strokes();
        }
    }
}
