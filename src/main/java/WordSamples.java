/**
 * Rows of letters that are compared by samples of their words.
 * ../shared/DOC.md says what each method promises.
 */
public final class WordSamples {
    public static final int NO_SUCH = -1, BAD_VALUE = -2, BAD_TEXT = -3, TOO_MANY = -4, NOT_POSSIBLE = -5, NONE = -6;
    public static final int WIDTH = 0, KEPT = 1, FACTOR = 2, OFFSET = 3;

    private static final int SETTINGS = 4;
    private static final int[] LEAST_SETTING = {1, 1, 1, 0};
    private static final int[] MOST_SETTING = {4, 32, 1000002, 1000002};
    private static final int[] FIRST_SETTING = {3, 8, 7919, 104729};

    private static final int MOST_ROWS = 10;
    private static final int MOST_SIGNS = 64;
    private static final int MOST_KEPT = 32;
    private static final int MOST_CHANGES = 6;
    private static final int SLOTS = 2;
    private static final int DOT = 26;
    private static final int BASE = 27;
    private static final int PRIME = 1000003;
    private static final int WHOLE = 10000;

    private final State now = new State();
    private final State[] history = new State[MOST_CHANGES];
    private int undoable = 0;
    private final State[] slots = new State[SLOTS];
    private final boolean[] saved = new boolean[SLOTS];

    private final int[] pad = new int[MOST_SIGNS];
    private int padLength = 0;

    // Made once and used again by all calls, as no call may fill the room with new arrays.
    private final Words[] words = new Words[MOST_ROWS];
    private final boolean[] gathered = new boolean[MOST_ROWS];
    private final Pair pair = new Pair();
    private final int[] heads = new int[MOST_ROWS];

    public WordSamples() {
        for (int change = 0; change < MOST_CHANGES; change++) {
            history[change] = new State();
        }
        for (int slot = 0; slot < SLOTS; slot++) {
            slots[slot] = new State();
        }
        for (int row = 0; row < MOST_ROWS; row++) {
            words[row] = new Words();
        }
    }

    // ---- changes

    public int set(int setting, int value) {
        if (setting < 0 || setting >= SETTINGS) {
            return BAD_VALUE;
        }
        if (value < LEAST_SETTING[setting] || value > MOST_SETTING[setting]) {
            return BAD_VALUE;
        }
        beginChange();
        int previous = now.settings[setting];
        now.settings[setting] = value;
        return previous;
    }

    public int add() {
        if (padFault() != NONE) {
            return BAD_TEXT;
        }
        if (now.rows >= MOST_ROWS) {
            return TOO_MANY;
        }
        beginChange();
        int row = now.rows;
        now.rows++;
        now.lengths[row] = 0;
        movePadTo(row);
        return row;
    }

    public int append(int row) {
        if (noRow(row)) {
            return NO_SUCH;
        }
        if (padFault() != NONE) {
            return BAD_TEXT;
        }
        if (now.lengths[row] + padLength > MOST_SIGNS) {
            return TOO_MANY;
        }
        beginChange();
        movePadTo(row);
        return now.lengths[row];
    }

    public int change(int row, int place, int sign) {
        if (noPlace(row, place)) {
            return NO_SUCH;
        }
        if (sign < 0 || sign > DOT) {
            return BAD_VALUE;
        }
        beginChange();
        int at = row * MOST_SIGNS + place;
        int previous = now.signs[at];
        now.signs[at] = sign;
        return previous;
    }

    public int remove(int row) {
        if (noRow(row)) {
            return NO_SUCH;
        }
        beginChange();
        int behind = now.rows - 1 - row;
        System.arraycopy(now.lengths, row + 1, now.lengths, row, behind);
        System.arraycopy(now.signs, (row + 1) * MOST_SIGNS, now.signs, row * MOST_SIGNS, behind * MOST_SIGNS);
        now.rows--;
        return now.rows;
    }

    // ---- what there is

    public int ofRow(int row, int what) {
        if (noRow(row)) {
            return NO_SUCH;
        }
        switch (what) {
            case 0:
                return now.lengths[row];
            case 1:
                return wordsOf(row).size;
            case 2:
                return sampleSize(row);
            case 3:
                return greatestOfSample(row);
            default:
                return BAD_VALUE;
        }
    }

    public int sign(int row, int place) {
        return noPlace(row, place) ? NO_SUCH : now.signs[row * MOST_SIGNS + place];
    }

    public int sample(int row, int place, int what) {
        if (noRow(row) || place < 0 || place >= sampleSize(row)) {
            return NO_SUCH;
        }
        switch (what) {
            case 0:
                return wordsOf(row).values[place];
            case 1:
                return wordsOf(row).codes[place];
            case 2:
                return wordsOf(row).times[place];
            default:
                return BAD_VALUE;
        }
    }

    public int count(int what) {
        switch (what) {
            case 0:
                return now.rows;
            case 1:
            case 2:
            case 3:
            case 4:
                return now.settings[what - 1];
            case 5:
                return wordsOfAll();
            case 6:
                return padLength;
            case 7:
                return undoable;
            default:
                return BAD_VALUE;
        }
    }

    // ---- two rows; nothing changes

    public int told(int row, int other, int what) {
        if (noRow(row) || noRow(other)) {
            return NO_SUCH;
        }
        Pair two = pairOf(row, other);
        int kept = now.settings[KEPT];
        switch (what) {
            case 0:
                return two.commonWords(kept);
            case 1:
                return two.leastCommon(kept);
            case 2:
                return two.toldShare(kept);
            case 3:
                return two.lowerBound(kept);
            case 4:
                return two.upperBound(kept);
            default:
                return BAD_VALUE;
        }
    }

    public int exact(int row, int other, int what) {
        if (noRow(row) || noRow(other)) {
            return NO_SUCH;
        }
        Pair two = pairOf(row, other);
        switch (what) {
            case 0:
                return two.inEither;
            case 1:
                return two.inBoth;
            case 2:
                return two.trueShare();
            default:
                return BAD_VALUE;
        }
    }

    public int inside(int row, int other, int what) {
        if (noRow(row) || noRow(other)) {
            return NO_SUCH;
        }
        Pair two = pairOf(row, other);
        int kept = now.settings[KEPT];
        switch (what) {
            case 0:
                return shareDown(two.inBoth, two.firstWords);
            case 1:
                return shareDown(two.leastCommon(kept), two.firstWords);
            case 2:
                return shareUp(two.mostCommon(kept), two.firstWords);
            default:
                return BAD_VALUE;
        }
    }

    // ---- all rows; nothing changes

    public int nearest(int row, int what) {
        if (noRow(row)) {
            return NO_SUCH;
        }
        if (what != 0 && what != 1) {
            return BAD_VALUE;
        }
        int found = NONE;
        int greatest = -1;
        for (int other = 0; other < now.rows; other++) {
            if (other == row) {
                continue;
            }
            Pair two = pairOf(row, other);
            int share = what == 0 ? two.toldShare(now.settings[KEPT]) : two.trueShare();
            if (share > greatest) {
                greatest = share;
                found = other;
            }
        }
        return found;
    }

    public int candidates(int row) {
        if (noRow(row)) {
            return NO_SUCH;
        }
        int kept = now.settings[KEPT];
        int greatest = 0;
        for (int other = 0; other < now.rows; other++) {
            if (other != row) {
                greatest = Math.max(greatest, pairOf(row, other).lowerBound(kept));
            }
        }
        int set = 0;
        for (int other = 0; other < now.rows; other++) {
            if (other != row && pairOf(row, other).upperBound(kept) >= greatest) {
                set |= 1 << other;
            }
        }
        return set;
    }

    public int worst(int what) {
        if (what < 0 || what > 2) {
            return BAD_VALUE;
        }
        int lower = NONE;
        int higher = NONE;
        int farthest = NONE;
        for (int row = 0; row < now.rows; row++) {
            for (int other = row + 1; other < now.rows; other++) {
                int far = pairOf(row, other).errorOfTold(now.settings[KEPT]);
                if (far > farthest) {
                    lower = row;
                    higher = other;
                    farthest = far;
                }
            }
        }
        return what == 0 ? lower : what == 1 ? higher : farthest;
    }

    public int bestKept(int limit) {
        if (limit < 0 || limit > WHOLE) {
            return BAD_VALUE;
        }
        // Each pair is run through once for all KEPT, so the ones that fail are gathered as bits.
        long failing = 0;
        for (int row = 0; row < now.rows; row++) {
            for (int other = row + 1; other < now.rows; other++) {
                failing |= keptBeyond(pairOf(row, other), limit);
            }
        }
        for (int kept = 1; kept <= MOST_KEPT; kept++) {
            if ((failing & (1L << kept)) == 0) {
                return kept;
            }
        }
        return NONE;
    }

    public int group(int row, int limit) {
        if (noRow(row)) {
            return NO_SUCH;
        }
        if (limit < 0 || limit > WHOLE) {
            return BAD_VALUE;
        }
        int reached = 1 << row;
        int followed = 0;
        for (int step = 0; step < now.rows && reached != followed; step++) {
            int next = lowestIn(reached & ~followed);
            followed |= 1 << next;
            reached |= toldAtLeast(next, limit);
        }
        return lowestIn(reached);
    }

    // ---- the pad

    public int put(long characters) {
        int given = charactersIn(characters);
        if (given == 0) {
            return BAD_VALUE;
        }
        if (padLength + given > MOST_SIGNS) {
            return TOO_MANY;
        }
        for (int place = 0; place < given; place++) {
            pad[padLength + place] = codeIn(characters, given - 1 - place);
        }
        padLength += given;
        return padLength;
    }

    public int wipe() {
        int length = padLength;
        padLength = 0;
        return length;
    }

    public int fault() {
        return padFault();
    }

    // ---- undo, saving

    public int undo() {
        if (undoable <= 0) {
            return NOT_POSSIBLE;
        }
        undoable--;
        now.copyFrom(history[undoable]);
        forgetWords();
        return undoable;
    }

    public int save(int slot) {
        if (slot < 0 || slot >= SLOTS) {
            return BAD_VALUE;
        }
        slots[slot].copyFrom(now);
        saved[slot] = true;
        return now.rows;
    }

    public int restore(int slot) {
        if (slot < 0 || slot >= SLOTS) {
            return BAD_VALUE;
        }
        if (!saved[slot]) {
            return NOT_POSSIBLE;
        }
        beginChange();
        now.copyFrom(slots[slot]);
        return now.rows;
    }

    // ---- the state and its words

    private boolean noRow(int row) {
        return row < 0 || row >= now.rows;
    }

    private boolean noPlace(int row, int place) {
        return noRow(row) || place < 0 || place >= now.lengths[row];
    }

    /** To be called behind the last check of an error: what follows it can be undone. */
    private void beginChange() {
        if (undoable >= MOST_CHANGES) {
            dropOldestChange();
        }
        history[undoable].copyFrom(now);
        undoable++;
        forgetWords();
    }

    private void dropOldestChange() {
        State oldest = history[0];
        for (int change = 1; change < MOST_CHANGES; change++) {
            history[change - 1] = history[change];
        }
        // Its arrays are used again for the next one.
        history[MOST_CHANGES - 1] = oldest;
        undoable = MOST_CHANGES - 1;
    }

    private void forgetWords() {
        for (int row = 0; row < MOST_ROWS; row++) {
            gathered[row] = false;
        }
    }

    private Words wordsOf(int row) {
        if (!gathered[row]) {
            words[row].gather(now, row);
            gathered[row] = true;
        }
        return words[row];
    }

    private int sampleSize(int row) {
        return Math.min(wordsOf(row).size, now.settings[KEPT]);
    }

    private int greatestOfSample(int row) {
        int size = sampleSize(row);
        return size == 0 ? NONE : wordsOf(row).valueAt(size - 1);
    }

    /** All calls share one Pair: the one that is given back stands until the next call. */
    private Pair pairOf(int row, int other) {
        pair.measure(wordsOf(row), wordsOf(other));
        return pair;
    }

    private int wordsOfAll() {
        for (int row = 0; row < now.rows; row++) {
            heads[row] = 0;
        }
        int different = 0;
        for (int step = 0; step < MOST_ROWS * MOST_SIGNS; step++) {
            int least = leastAtHeads();
            if (least == PRIME) {
                break;
            }
            different++;
            passAtHeads(least);
        }
        return different;
    }

    private int leastAtHeads() {
        int least = PRIME;
        for (int row = 0; row < now.rows; row++) {
            least = Math.min(least, wordsOf(row).valueAt(heads[row]));
        }
        return least;
    }

    private void passAtHeads(int value) {
        for (int row = 0; row < now.rows; row++) {
            if (wordsOf(row).valueAt(heads[row]) == value) {
                heads[row]++;
            }
        }
    }

    // ---- helpers of the calls over all rows

    private static long keptBeyond(Pair two, int limit) {
        long beyond = 0;
        for (int kept = 1; kept <= MOST_KEPT; kept++) {
            if (two.errorOfTold(kept) > limit) {
                beyond |= 1L << kept;
            }
        }
        return beyond;
    }

    private int toldAtLeast(int row, int limit) {
        int set = 0;
        for (int other = 0; other < now.rows; other++) {
            if (pairOf(row, other).toldShare(now.settings[KEPT]) >= limit) {
                set |= 1 << other;
            }
        }
        return set;
    }

    private static int lowestIn(int set) {
        for (int row = 0; row < MOST_ROWS; row++) {
            if ((set & (1 << row)) != 0) {
                return row;
            }
        }
        return 0;
    }

    private static int shareDown(int part, int whole) {
        return whole <= 0 ? 0 : part * WHOLE / whole;
    }

    private static int shareUp(int part, int whole) {
        return whole <= 0 ? 0 : (part * WHOLE + whole - 1) / whole;
    }

    // ---- helpers of the pad

    private static int codeIn(long characters, int place) {
        return (int) ((characters >>> (8 * place)) & 255);
    }

    /** How many characters the number holds; 0 also if it is not a right one. */
    private static int charactersIn(long characters) {
        int given = 0;
        for (int place = 0; place < 8; place++) {
            int code = codeIn(characters, place);
            if (code == 0) {
                continue;
            }
            // A place that was passed over was one of no character, above which all has to be 0.
            if (given < place || code < 33 || code > 126) {
                return 0;
            }
            given++;
        }
        return given;
    }

    private static int signOf(int code) {
        if (code == '.') {
            return DOT;
        }
        return code >= 'a' && code <= 'z' ? code - 'a' : NONE;
    }

    private int padFault() {
        if (padLength == 0) {
            return 0;
        }
        for (int place = 0; place < padLength; place++) {
            if (signOf(pad[place]) == NONE) {
                return place;
            }
        }
        return NONE;
    }

    private void movePadTo(int row) {
        int start = row * MOST_SIGNS + now.lengths[row];
        for (int place = 0; place < padLength; place++) {
            now.signs[start + place] = signOf(pad[place]);
        }
        now.lengths[row] += padLength;
        padLength = 0;
    }

    /** What undo, save and restore keep. */
    private static final class State {
        final int[] settings = new int[SETTINGS];
        final int[] lengths = new int[MOST_ROWS];
        final int[] signs = new int[MOST_ROWS * MOST_SIGNS];
        int rows = 0;

        State() {
            System.arraycopy(FIRST_SETTING, 0, settings, 0, SETTINGS);
        }

        void copyFrom(State other) {
            System.arraycopy(other.settings, 0, settings, 0, SETTINGS);
            System.arraycopy(other.lengths, 0, lengths, 0, MOST_ROWS);
            System.arraycopy(other.signs, 0, signs, 0, MOST_ROWS * MOST_SIGNS);
            rows = other.rows;
        }
    }

    /** The different words of a row, in the order of their values. */
    private static final class Words {
        final int[] values = new int[MOST_SIGNS];
        final int[] codes = new int[MOST_SIGNS];
        final int[] times = new int[MOST_SIGNS];
        int size = 0;

        Words() {
        }

        void gather(State state, int row) {
            size = 0;
            int start = row * MOST_SIGNS;
            int width = state.settings[WIDTH];
            int last = state.lengths[row] - width;
            for (int place = 0; place <= last; place++) {
                int code = codeAt(state.signs, start + place, width);
                // The product is too great for an int.
                long value = (long) code * state.settings[FACTOR] + state.settings[OFFSET];
                enter(code, (int) (value % PRIME));
            }
        }

        /** No word has the value PRIME: it stands for the end, behind all words. */
        int valueAt(int place) {
            return place >= 0 && place < size ? values[place] : PRIME;
        }

        private static int codeAt(int[] signs, int start, int width) {
            int code = 0;
            for (int place = 0; place < width; place++) {
                code = code * BASE + signs[start + place];
            }
            return code;
        }

        private void enter(int code, int value) {
            int at = 0;
            while (at < size && values[at] < value) {
                at++;
            }
            if (valueAt(at) == value) {
                times[at]++;
                return;
            }
            if (size >= MOST_SIGNS) {
                return;
            }
            System.arraycopy(values, at, values, at + 1, size - at);
            System.arraycopy(codes, at, codes, at + 1, size - at);
            System.arraycopy(times, at, times, at + 1, size - at);
            values[at] = value;
            codes[at] = code;
            times[at] = 1;
            size++;
        }
    }

    /** Two rows, whose words are run through together in the order of their values. */
    private static final class Pair {
        // Entry k tells of the k least words of both rows: the common sample, if KEPT were k.
        final int[] bothAmong = new int[MOST_KEPT + 1];
        final int[] firstAmong = new int[MOST_KEPT + 1];
        final int[] secondAmong = new int[MOST_KEPT + 1];
        int firstWords = 0;
        int secondWords = 0;
        int inEither = 0;
        int inBoth = 0;

        Pair() {
        }

        void measure(Words first, Words second) {
            firstWords = first.size;
            secondWords = second.size;
            inEither = 0;
            inBoth = 0;
            int ofFirst = 0;
            int ofSecond = 0;
            for (int step = 0; step < firstWords + secondWords; step++) {
                int firstValue = first.valueAt(ofFirst);
                int secondValue = second.valueAt(ofSecond);
                if (firstValue == PRIME && secondValue == PRIME) {
                    break;
                }
                ofFirst += firstValue <= secondValue ? 1 : 0;
                ofSecond += secondValue <= firstValue ? 1 : 0;
                inBoth += firstValue == secondValue ? 1 : 0;
                inEither++;
                if (inEither <= MOST_KEPT) {
                    firstAmong[inEither] = ofFirst;
                    secondAmong[inEither] = ofSecond;
                    bothAmong[inEither] = inBoth;
                }
            }
        }

        int commonWords(int kept) {
            return Math.min(inEither, Math.max(0, Math.min(kept, MOST_KEPT)));
        }

        int leastCommon(int kept) {
            return bothAmong[commonWords(kept)];
        }

        int mostCommon(int kept) {
            int common = commonWords(kept);
            int firstRest = firstWords - firstAmong[common];
            int secondRest = secondWords - secondAmong[common];
            return bothAmong[common] + Math.min(firstRest, secondRest);
        }

        int toldShare(int kept) {
            return shareDown(leastCommon(kept), commonWords(kept));
        }

        int trueShare() {
            return shareDown(inBoth, inEither);
        }

        int lowerBound(int kept) {
            int common = leastCommon(kept);
            return shareDown(common, firstWords + secondWords - common);
        }

        int upperBound(int kept) {
            int common = mostCommon(kept);
            return shareUp(common, firstWords + secondWords - common);
        }

        int errorOfTold(int kept) {
            return Math.abs(toldShare(kept) - trueShare());
        }
    }
}
