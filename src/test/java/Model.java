import java.util.ArrayList;
import java.util.Comparator;
import java.util.HashMap;
import java.util.List;
import java.util.Map;
import java.util.TreeMap;
import java.util.TreeSet;

/**
 * The document told a second time, in another way: strokes are kept as a log, places and pairs as maps.
 * Each call answers a number, a truth, "nothing", or the name of the exception that is due.
 */
final class Model {
    private static final String INDEX = "IndexOutOfBoundsException";
    private static final String ARGUMENT = "IllegalArgumentException";
    private static final String STATE = "IllegalStateException";

    private static final class Stroke {
        final int position;
        final int letter;
        final boolean isRight;
        boolean isMended = false;

        Stroke(int position, int letter, boolean isRight) {
            this.position = position;
            this.letter = letter;
            this.isRight = isRight;
        }
    }

    private final Map<Integer, String> placeOf = new TreeMap<>();
    private final Map<String, Integer> pairs = new HashMap<>();
    private final int[] counts = new int[26];
    private final int[] times = new int[26];
    private final int[] shares = new int[26];
    private final TreeSet<Integer> in = new TreeSet<>(List.of(0, 1, 2, 3));
    private final List<Integer> wanted = new ArrayList<>();
    private final List<Stroke> log = new ArrayList<>();
    private final List<Integer> speeds = new ArrayList<>();
    private final List<int[]> errors = new ArrayList<>();
    private int position = 0;
    private int millisOfLesson = 0;
    private int wishedTime = 300;
    private int wishedShare = 1000;
    private int strokesOfDay = 0;

    Model() {
        for (int letter = 0; letter < 26; letter++) {
            placeOf.put(letter, place(letter % 10, letter / 10));
            times[letter] = 400;
        }
    }

    /** The letter that is to be typed next, or -1; no call of the document. */
    int due() {
        return position < wanted.size() ? wanted.get(position) : -1;
    }

    private static String place(int column, int row) {
        return "" + column + row;
    }

    private int column(int letter) {
        return placeOf.get(letter).charAt(0) - '0';
    }

    private int row(int letter) {
        return placeOf.get(letter).charAt(1) - '0';
    }

    private int letterAt(String place) {
        return placeOf.keySet().stream().filter(k -> placeOf.get(k).equals(place)).findFirst().orElse(-1);
    }

    private static boolean isNone(int letter) {
        return letter < 0 || letter > 25;
    }

    /** The calls by their numbers in the order of the face. */
    Object call(int number, int a, int b, int c) {
        switch (number) {
            case 0: return put(a, b, c);
            case 1: return isNone(a) ? INDEX : (Object) finger(a);
            case 2: return isNone(a) || isNone(b) ? INDEX : (Object) areBeside(a, b);
            case 3: return isNone(a) ? INDEX : (Object) letterAt(place(9 - column(a), row(a)));
            case 4: return want(a);
            case 5: return drill(a);
            case 6: return wanted.size();
            case 7: return a < 0 || a >= wanted.size() ? INDEX : (Object) wanted.get(a);
            case 8: return position;
            case 9: return stroke(a, b);
            case 10: return back(a);
            case 11: return speed();
            case 12: return (int) log.stream().filter(s -> s.isMended).count();
            case 13: return end();
            case 14: return isNone(a) ? INDEX : (Object) counts[a];
            case 15: return isNone(a) ? INDEX : (Object) times[a];
            case 16: return isNone(a) ? INDEX : (Object) shares[a];
            case 17: return isNone(a) || isNone(b) ? INDEX : (Object) pairTime(a, b);
            case 18: return a < 0 || a > 4 ? ARGUMENT : (Object) errorsWith(0, a);
            case 19: return a < 0 || a > 7 ? ARGUMENT : (Object) errorsWith(1, a);
            case 20: return wish(a, b);
            case 21: return isNone(a) ? INDEX : (Object) in.contains(a);
            case 22: return isNone(a) ? INDEX : (Object) isGood(a);
            case 23: return weakest();
            case 24: return speeds.size();
            case 25: return a < 0 || a >= speeds.size() ? INDEX : (Object) speeds.get(a);
            case 26: return falls();
            case 27: return endDay();
            default: return strokesOfDay;
        }
    }

    private Object put(int letter, int column, int row) {
        if (isNone(letter) || column < 0 || column > 9 || row < 0 || row > 2) {
            return INDEX;
        }
        int there = letterAt(place(column, row));
        if (there >= 0) {
            placeOf.put(there, placeOf.get(letter));
        }
        placeOf.put(letter, place(column, row));
        return there;
    }

    private int finger(int letter) {
        return "0123344567".charAt(column(letter)) - '0';
    }

    private boolean areBeside(int a, int b) {
        int columns = column(a) - column(b);
        int rows = row(a) - row(b);
        return columns * columns < 2 && rows * rows < 2;
    }

    private Object want(int letter) {
        if (isNone(letter)) {
            return INDEX;
        }
        if (wanted.size() == 40) {
            return STATE;
        }
        wanted.add(letter);
        return wanted.size();
    }

    private Object drill(int length) {
        if (length < 1 || length > 40) {
            return ARGUMENT;
        }
        List<Integer> letters = new ArrayList<>(List.of(weakest()));
        while (letters.size() < length) {
            int before = letters.get(letters.size() - 1);
            letters.add(in.stream().filter(k -> k != before)
                .min(Comparator.comparing((Integer k) -> -pairTime(before, k)).thenComparing(k -> k)).get());
        }
        int free = Math.min(length, 40 - wanted.size());
        wanted.addAll(letters.subList(0, free));
        return free;
    }

    private Object stroke(int letter, int millis) {
        if (isNone(letter)) {
            return INDEX;
        }
        if (millis < 1 || millis > 5000) {
            return ARGUMENT;
        }
        if (position == wanted.size()) {
            return STATE;
        }
        int due = wanted.get(position);
        int kind = letter == due ? -1 : kind(letter, due);
        counts[due]++;
        times[due] = (3 * times[due] + millis) / 4;
        shares[due] = (7 * shares[due] + (kind < 0 ? 0 : 10000)) / 8;
        if (position > 0) {
            int before = wanted.get(position - 1);
            pairs.put(before + " " + due, (3 * pairTime(before, due) + millis) / 4);
        }
        if (kind >= 0) {
            errors.add(new int[] {kind, finger(due)});
        }
        log.add(new Stroke(position, letter, kind < 0));
        position++;
        millisOfLesson += millis;
        strokesOfDay++;
        return kind;
    }

    private int kind(int letter, int due) {
        for (int k = log.size() - 1; k >= 0; k--) {
            if (log.get(k).position == position - 1) {
                if (log.get(k).letter == letter) {
                    return 0;
                }
                break;
            }
        }
        if (position + 1 < wanted.size() && wanted.get(position + 1) == letter) {
            return 1;
        }
        if (areBeside(letter, due)) {
            return 2;
        }
        return letterAt(place(9 - column(due), row(due))) == letter ? 3 : 4;
    }

    private Object back(int millis) {
        if (millis < 1 || millis > 5000) {
            return ARGUMENT;
        }
        if (position == 0) {
            return STATE;
        }
        position--;
        millisOfLesson += millis;
        for (Stroke stroke : log) {
            if (stroke.position == position) {
                stroke.isMended = true;
            }
        }
        return position;
    }

    private int speed() {
        long right = log.stream().filter(s -> s.isRight && !s.isMended).count();
        return millisOfLesson == 0 ? 0 : (int) (right * 60000 / millisOfLesson);
    }

    private Object end() {
        if (speeds.size() == 100) {
            return STATE;
        }
        List<Integer> out = in.stream().filter(k -> k > 3 && counts[k] >= 3 && shares[k] > 5000).toList();
        in.removeAll(out);
        for (int letter : out) {
            counts[letter] = 0;
            times[letter] = 400;
            shares[letter] = 0;
        }
        int letIn = -1;
        if (out.isEmpty() && in.size() < 26 && in.stream().allMatch(this::isGood)) {
            letIn = 0;
            while (in.contains(letIn)) {
                letIn++;
            }
            in.add(letIn);
        }
        speeds.add(speed());
        wanted.clear();
        log.clear();
        position = 0;
        millisOfLesson = 0;
        return letIn;
    }

    private int pairTime(int letter, int other) {
        return pairs.getOrDefault(letter + " " + other, 400);
    }

    private int errorsWith(int place, int value) {
        return (int) errors.stream().filter(e -> e[place] == value).count();
    }

    private Object wish(int time, int share) {
        if (time < 1 || time > 5000 || share < 0 || share > 10000) {
            return ARGUMENT;
        }
        wishedTime = time;
        wishedShare = share;
        return "nothing";
    }

    private boolean isGood(int letter) {
        return counts[letter] >= 3 && times[letter] <= wishedTime && shares[letter] <= wishedShare;
    }

    private int weakest() {
        return in.stream().min(Comparator.comparing((Integer k) -> -shares[k])
            .thenComparing(k -> -times[k]).thenComparing(k -> k)).get();
    }

    private int falls() {
        int falls = 0;
        while (falls + 1 < speeds.size()
            && speeds.get(speeds.size() - 1 - falls) < speeds.get(speeds.size() - 2 - falls)) {
            falls++;
        }
        return falls;
    }

    private int endDay() {
        int ofDay = strokesOfDay;
        strokesOfDay = 0;
        for (int letter = 0; letter < 26; letter++) {
            counts[letter] /= 2;
        }
        return ofDay;
    }
}
