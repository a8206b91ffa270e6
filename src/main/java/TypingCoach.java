import java.util.Arrays;

/** A coach for typing: a board, lessons, errors, figures that age, and letters let in one by one. */
public final class TypingCoach {
    public static final int NONE = -1;
    public static final int DOUBLED = 0, SWAPPED = 1, BESIDE = 2, MIRRORED = 3, OTHER = 4;

    private static final int LETTERS = 26;
    private static final int COLUMNS = 10;
    private static final int ROWS = 3;
    private static final int FINGERS = 8;
    private static final int KINDS = 5;
    private static final int MOST_WANTED = 40;
    private static final int MOST_LESSONS = 100;
    private static final int MOST_MILLIS = 5000;
    private static final int WHOLE_SHARE = 10000;
    private static final int MILLIS_OF_A_MINUTE = 60000;

    private static final int LETTERS_AT_FIRST = 4;
    private static final int TIME_AT_FIRST = 400;
    private static final int WISHED_TIME_AT_FIRST = 300;
    private static final int WISHED_SHARE_AT_FIRST = 1000;
    private static final int COUNT_TO_JUDGE = 3;
    private static final int SHARE_TO_STAY_IN = 5000;

    private static final int[] FINGER_OF_COLUMN = {0, 1, 2, 3, 3, 4, 4, 5, 6, 7};

    private final Board board = new Board();
    private final Figures figures = new Figures();
    private final LettersIn lettersIn = new LettersIn(figures);
    private final Lesson lesson = new Lesson();
    private final Speeds speeds = new Speeds();
    private final Cells errorsOfKinds = new Cells(KINDS, 0);
    private final Cells errorsOfFingers = new Cells(FINGERS, 0);
    private int strokesOfDay = 0;

    public TypingCoach() {
    }

    // ---- board

    public int put(int letter, int column, int row) throws IndexOutOfBoundsException {
        needLetter(letter);
        if (!isWithin(column, 0, COLUMNS - 1) || !isWithin(row, 0, ROWS - 1)) {
            throw new IndexOutOfBoundsException("no such place");
        }
        return board.move(letter, row * COLUMNS + column);
    }

    public int finger(int letter) throws IndexOutOfBoundsException {
        needLetter(letter);
        return board.fingerOf(letter);
    }

    public boolean areBeside(int letter, int other) throws IndexOutOfBoundsException {
        needLetter(letter);
        needLetter(other);
        return board.touch(letter, other);
    }

    public int mirror(int letter) throws IndexOutOfBoundsException {
        needLetter(letter);
        return board.mirrorOf(letter);
    }

    // ---- lessons

    public int want(int letter) throws IndexOutOfBoundsException, IllegalStateException {
        needLetter(letter);
        if (lesson.isFull()) {
            throw new IllegalStateException("40 letters are wanted");
        }
        lesson.append(letter);
        return lesson.size;
    }

    public int drill(int length) throws IllegalArgumentException {
        if (!isWithin(length, 1, MOST_WANTED)) {
            throw new IllegalArgumentException("length out of range");
        }
        int letter = lettersIn.weakestOfAll();
        int added = 0;
        while (added < length && !lesson.isFull()) {
            lesson.append(letter);
            letter = lettersIn.slowestBehind(letter);
            added++;
        }
        return added;
    }

    public int wanted() {
        return lesson.size;
    }

    public int wantedAt(int position) throws IndexOutOfBoundsException {
        if (!isWithin(position, 0, lesson.size - 1)) {
            throw new IndexOutOfBoundsException("no such position");
        }
        return lesson.letterAt(position);
    }

    public int position() {
        return lesson.position;
    }

    public int stroke(int letter, int millis)
            throws IndexOutOfBoundsException, IllegalArgumentException, IllegalStateException {
        needLetter(letter);
        needMillis(millis);
        int due = lesson.letterAt(lesson.position);
        if (due == NONE) {
            throw new IllegalStateException("no wanted letter is at the position");
        }
        int kind = kindOfStroke(letter, due);
        figures.learn(due, millis, kind != NONE);
        if (lesson.position != 0) {
            figures.learnPair(lesson.letterAt(lesson.position - 1), due, millis);
        }
        if (kind != NONE) {
            errorsOfKinds.add(kind, 1);
            errorsOfFingers.add(board.fingerOf(due), 1);
        }
        lesson.type(letter, millis);
        strokesOfDay++;
        return kind;
    }

    public int back(int millis) throws IllegalArgumentException, IllegalStateException {
        needMillis(millis);
        if (lesson.position == 0) {
            throw new IllegalStateException("the position is 0");
        }
        lesson.goBack(millis);
        return lesson.position;
    }

    public int speed() {
        return lesson.speedSoFar();
    }

    public int mended() {
        return lesson.mendedStrokes;
    }

    public int end() throws IllegalStateException {
        if (speeds.isFull()) {
            throw new IllegalStateException("100 lessons have ended");
        }
        int letIn = lettersIn.review();
        speeds.keep(lesson.speedSoFar());
        lesson.beginAnew();
        return letIn;
    }

    // ---- figures

    public int count(int letter) throws IndexOutOfBoundsException {
        needLetter(letter);
        return figures.counts.at(letter);
    }

    public int time(int letter) throws IndexOutOfBoundsException {
        needLetter(letter);
        return figures.times.at(letter);
    }

    public int share(int letter) throws IndexOutOfBoundsException {
        needLetter(letter);
        return figures.shares.at(letter);
    }

    public int pairTime(int letter, int other) throws IndexOutOfBoundsException {
        needLetter(letter);
        needLetter(other);
        return figures.timeOfPair(letter, other);
    }

    public int errors(int kind) throws IllegalArgumentException {
        if (!isWithin(kind, 0, KINDS - 1)) {
            throw new IllegalArgumentException("no such kind");
        }
        return errorsOfKinds.at(kind);
    }

    public int errorsOf(int finger) throws IllegalArgumentException {
        if (!isWithin(finger, 0, FINGERS - 1)) {
            throw new IllegalArgumentException("finger out of range");
        }
        return errorsOfFingers.at(finger);
    }

    // ---- letters that are in

    public void wish(int time, int share) throws IllegalArgumentException {
        if (!isWithin(time, 1, MOST_MILLIS) || !isWithin(share, 0, WHOLE_SHARE)) {
            throw new IllegalArgumentException("wish out of range");
        }
        figures.wishedTime = time;
        figures.wishedShare = share;
    }

    public boolean isIn(int letter) throws IndexOutOfBoundsException {
        needLetter(letter);
        return lettersIn.contains(letter);
    }

    public boolean isGood(int letter) throws IndexOutOfBoundsException {
        needLetter(letter);
        return figures.fulfilsWish(letter);
    }

    public int weakest() {
        return lettersIn.weakestOfAll();
    }

    // ---- speeds and days

    public int lessons() {
        return speeds.size;
    }

    public int speedOf(int lesson) throws IndexOutOfBoundsException {
        if (!isWithin(lesson, 0, speeds.size - 1)) {
            throw new IndexOutOfBoundsException("no such lesson");
        }
        return speeds.kept.at(lesson);
    }

    public int falls() {
        return speeds.fallsAtTheEnd();
    }

    public int endDay() {
        int ofDay = strokesOfDay;
        figures.halveCounts();
        strokesOfDay = 0;
        return ofDay;
    }

    public int strokes() {
        return strokesOfDay;
    }

    // ---- parts

    private int kindOfStroke(int typed, int due) {
        if (typed == due) {
            return NONE;
        }
        if (typed == lesson.typedBefore()) {
            return DOUBLED;
        }
        if (typed == lesson.letterAt(lesson.position + 1)) {
            return SWAPPED;
        }
        if (board.touch(typed, due)) {
            return BESIDE;
        }
        return typed == board.mirrorOf(due) ? MIRRORED : OTHER;
    }

    private static void needLetter(int letter) throws IndexOutOfBoundsException {
        if (!isWithin(letter, 0, LETTERS - 1)) {
            throw new IndexOutOfBoundsException("no such letter");
        }
    }

    private static void needMillis(int millis) throws IllegalArgumentException {
        if (!isWithin(millis, 1, MOST_MILLIS)) {
            throw new IllegalArgumentException("millis out of range");
        }
    }

    private static boolean isWithin(int value, int least, int most) {
        return value >= least && value <= most;
    }

    /** Numbers in a row. Every index is tested here, in one place for all rows of the object. */
    private static final class Cells {
        private final int[] values;

        Cells(int length, int first) {
            values = new int[Math.max(length, 0)];
            Arrays.fill(values, first);
        }

        /** Answers NONE outside the row. */
        int at(int index) {
            return index >= 0 && index < values.length ? values[index] : NONE;
        }

        /** Changes nothing outside the row. */
        void set(int index, int value) {
            if (index >= 0 && index < values.length) {
                values[index] = value;
            }
        }

        void add(int index, int more) {
            set(index, at(index) + more);
        }
    }

    /** The letters at their places; a place is a number too, its row times COLUMNS and its column. */
    private static final class Board {
        private final Cells placeOfLetter = new Cells(LETTERS, 0);
        private final Cells letterOfPlace = new Cells(ROWS * COLUMNS, NONE);

        Board() {
            for (int letter = 0; letter < LETTERS; letter++) {
                placeOfLetter.set(letter, letter);
                letterOfPlace.set(letter, letter);
            }
        }

        int move(int letter, int place) {
            int there = letterOfPlace.at(place);
            int from = placeOfLetter.at(letter);
            // The letter that was there is set first: it can be the very letter that moves.
            letterOfPlace.set(from, there);
            if (there != NONE) {
                placeOfLetter.set(there, from);
            }
            letterOfPlace.set(place, letter);
            placeOfLetter.set(letter, place);
            return there;
        }

        int fingerOf(int letter) {
            int column = columnOf(letter);
            return column >= 0 && column < FINGER_OF_COLUMN.length ? FINGER_OF_COLUMN[column] : NONE;
        }

        boolean touch(int letter, int other) {
            return Math.abs(columnOf(letter) - columnOf(other)) <= 1
                && Math.abs(rowOf(letter) - rowOf(other)) <= 1;
        }

        int mirrorOf(int letter) {
            return letterOfPlace.at(rowOf(letter) * COLUMNS + COLUMNS - 1 - columnOf(letter));
        }

        private int columnOf(int letter) {
            return placeOfLetter.at(letter) % COLUMNS;
        }

        private int rowOf(int letter) {
            return placeOfLetter.at(letter) / COLUMNS;
        }
    }

    /** The figures of letters and pairs, and what is wished of them. */
    private static final class Figures {
        private final Cells counts = new Cells(LETTERS, 0);
        private final Cells times = new Cells(LETTERS, TIME_AT_FIRST);
        private final Cells shares = new Cells(LETTERS, 0);
        private final Cells pairTimes = new Cells(LETTERS * LETTERS, TIME_AT_FIRST);
        private int wishedTime = WISHED_TIME_AT_FIRST;
        private int wishedShare = WISHED_SHARE_AT_FIRST;

        void learn(int letter, int millis, boolean isWrong) {
            counts.add(letter, 1);
            times.set(letter, aged(times.at(letter), millis));
            shares.set(letter, (7 * shares.at(letter) + (isWrong ? WHOLE_SHARE : 0)) / 8);
        }

        void learnPair(int letter, int other, int millis) {
            pairTimes.set(pairOf(letter, other), aged(timeOfPair(letter, other), millis));
        }

        int timeOfPair(int letter, int other) {
            return pairTimes.at(pairOf(letter, other));
        }

        boolean fulfilsWish(int letter) {
            return counts.at(letter) >= COUNT_TO_JUDGE
                && times.at(letter) <= wishedTime
                && shares.at(letter) <= wishedShare;
        }

        boolean mustGoOut(int letter) {
            return counts.at(letter) >= COUNT_TO_JUDGE && shares.at(letter) > SHARE_TO_STAY_IN;
        }

        boolean isWeaker(int letter, int other) {
            if (shares.at(letter) != shares.at(other)) {
                return shares.at(letter) > shares.at(other);
            }
            return times.at(letter) > times.at(other);
        }

        /** Times of pairs stay: they are no figures of the letter. */
        void forget(int letter) {
            counts.set(letter, 0);
            times.set(letter, TIME_AT_FIRST);
            shares.set(letter, 0);
        }

        void halveCounts() {
            for (int letter = 0; letter < LETTERS; letter++) {
                counts.set(letter, counts.at(letter) / 2);
            }
        }

        private static int pairOf(int letter, int other) {
            return letter * LETTERS + other;
        }

        private static int aged(int time, int millis) {
            return (3 * time + millis) / 4;
        }
    }

    /** Which letters are in. The letters of the beginning always are, so that there is a weakest one. */
    private static final class LettersIn {
        private final boolean[] in = new boolean[LETTERS];
        private final Figures figures;

        LettersIn(Figures figures) {
            this.figures = figures;
            for (int letter = 0; letter < in.length; letter++) {
                in[letter] = letter < LETTERS_AT_FIRST;
            }
        }

        boolean contains(int letter) {
            return letter >= 0 && letter < in.length && in[letter];
        }

        int weakestOfAll() {
            int weakest = 0;
            for (int letter = 1; letter < LETTERS; letter++) {
                if (contains(letter) && figures.isWeaker(letter, weakest)) {
                    weakest = letter;
                }
            }
            return weakest;
        }

        /** The letter with the slowest pair behind this one, which itself does not follow. */
        int slowestBehind(int before) {
            int slowest = NONE;
            int slowestTime = NONE;
            for (int letter = 0; letter < LETTERS; letter++) {
                int time = figures.timeOfPair(before, letter);
                if (contains(letter) && letter != before && time > slowestTime) {
                    slowest = letter;
                    slowestTime = time;
                }
            }
            return slowest;
        }

        /** Takes letters out or lets one in; answers the one that is let in. */
        int review() {
            return takeOut() || !areAllGood() ? NONE : letIn();
        }

        private boolean takeOut() {
            boolean isOneOut = false;
            for (int letter = LETTERS_AT_FIRST; letter < in.length; letter++) {
                if (contains(letter) && figures.mustGoOut(letter)) {
                    in[letter] = false;
                    figures.forget(letter);
                    isOneOut = true;
                }
            }
            return isOneOut;
        }

        private boolean areAllGood() {
            for (int letter = 0; letter < LETTERS; letter++) {
                if (contains(letter) && !figures.fulfilsWish(letter)) {
                    return false;
                }
            }
            return true;
        }

        private int letIn() {
            for (int letter = 0; letter < in.length; letter++) {
                if (!contains(letter)) {
                    in[letter] = true;
                    return letter;
                }
            }
            return NONE;
        }
    }

    /** The lesson that goes on; one object serves all lessons, one after the other. */
    private static final class Lesson {
        private final Cells letters = new Cells(MOST_WANTED, NONE);
        private final Cells typed = new Cells(MOST_WANTED, NONE);
        private int size = 0;
        private int position = 0;
        private int mendedStrokes = 0;
        private int millisInAll = 0;

        boolean isFull() {
            return size >= MOST_WANTED;
        }

        void append(int letter) {
            letters.set(size, letter);
            size++;
        }

        /** NONE if no letter is wanted there; what an earlier lesson left behind does not count. */
        int letterAt(int place) {
            return place < size ? letters.at(place) : NONE;
        }

        int typedBefore() {
            return typed.at(position - 1);
        }

        void type(int letter, int millis) {
            typed.set(position, letter);
            position++;
            millisInAll += millis;
        }

        void goBack(int millis) {
            position--;
            mendedStrokes++;
            millisInAll += millis;
        }

        int speedSoFar() {
            return millisInAll <= 0 ? 0 : rightStrokes() * MILLIS_OF_A_MINUTE / millisInAll;
        }

        void beginAnew() {
            size = 0;
            position = 0;
            mendedStrokes = 0;
            millisInAll = 0;
        }

        /** Strokes at or behind the position are mended, so only those ahead of it are looked at. */
        private int rightStrokes() {
            int right = 0;
            for (int place = 0; place < position; place++) {
                if (typed.at(place) == letters.at(place)) {
                    right++;
                }
            }
            return right;
        }
    }

    /** The speeds of the lessons that have ended. */
    private static final class Speeds {
        private final Cells kept = new Cells(MOST_LESSONS, 0);
        private int size = 0;

        boolean isFull() {
            return size >= MOST_LESSONS;
        }

        void keep(int speed) {
            kept.set(size, speed);
            size++;
        }

        int fallsAtTheEnd() {
            int falls = 0;
            for (int lesson = size - 1; lesson > 0 && kept.at(lesson) < kept.at(lesson - 1); lesson--) {
                falls++;
            }
            return falls;
        }
    }
}
