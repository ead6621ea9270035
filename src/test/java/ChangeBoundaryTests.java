/** The sentences of promises 1 to 6 and 22 to 24 that name a boundary case, one test for each. */
public final class ChangeBoundaryTests {
    private static final int NO_SUCH = -1, BAD_VALUE = -2, BAD_TEXT = -3, TOO_MANY = -4, NOT_POSSIBLE = -5, NONE = -6;
    private static final int[] FAR = {Integer.MIN_VALUE, Integer.MIN_VALUE + 1, -1000, -2, -1};
    private static final String FULL = Checks.FULL;

    private final Checks checks = new Checks();

    public static void main(String[] args) {
        ChangeBoundaryTests tests = new ChangeBoundaryTests();
        tests.newObject();
        tests.sets();
        tests.adds();
        tests.appends();
        tests.changes();
        tests.removes();
        tests.undos();
        tests.saves();
        tests.restores();
        tests.checks.end("ChangeBoundaryTests");
    }

    private void due(String call, long got, long want) {
        checks.due(call, got, want);
    }

    // ---- promise 1

    private void newObject() {
        checks.about("1: Creates it without rows");
        WordSamples samples = new WordSamples();
        due("rows", samples.count(0), 0);
        due("words", samples.count(5), 0);
        due("the pad", samples.count(6), 0);
        due("changes", samples.count(7), 0);
        due("fault()", samples.fault(), 0);
        due("wipe()", samples.wipe(), 0);
        due("undo()", samples.undo(), NOT_POSSIBLE);
        due("restore(0)", samples.restore(0), NOT_POSSIBLE);
        due("restore(1)", samples.restore(1), NOT_POSSIBLE);
        due("worst(0)", samples.worst(0), NONE);
        due("bestKept(0)", samples.bestKept(0), 1);
        for (int row = 0; row < 10; row++) {
            due("ofRow", samples.ofRow(row, 0), NO_SUCH);
            due("sign", samples.sign(row, 0), NO_SUCH);
            due("sample", samples.sample(row, 0, 0), NO_SUCH);
            due("told", samples.told(row, row, 0), NO_SUCH);
            due("exact", samples.exact(row, row, 0), NO_SUCH);
            due("inside", samples.inside(row, row, 0), NO_SUCH);
            due("nearest", samples.nearest(row, 0), NO_SUCH);
            due("candidates", samples.candidates(row), NO_SUCH);
            due("group", samples.group(row, 0), NO_SUCH);
            due("append", samples.append(row), NO_SUCH);
            due("change", samples.change(row, 0, 0), NO_SUCH);
            due("remove", samples.remove(row), NO_SUCH);
        }
    }

    // ---- promise 2

    private void sets() {
        previousValue();
        noSuchSetting();
        valueOutOfRange();
        setIsAChange();
    }

    private void previousValue() {
        checks.about("2: Returns the previous value");
        WordSamples samples = new WordSamples();
        due("set(3, 0)", samples.set(3, 0), 104729);
        due("set(3, 9): the previous value is 0", samples.set(3, 9), 0);
        due("set(3, 9) again", samples.set(3, 9), 9);
        due("set(3, -1)", samples.set(3, -1), BAD_VALUE);
        due("set(3, 1): the refused one was none", samples.set(3, 1), 9);
    }

    private void noSuchSetting() {
        checks.about("2: BAD_VALUE if there is no such setting");
        for (int setting : new int[] {Integer.MIN_VALUE, -2, -1, 4, 5, 7, 8, 256, Integer.MAX_VALUE}) {
            due("set(" + setting + ", 1)", new WordSamples().set(setting, 1), BAD_VALUE);
        }
        due("set(3, 1) of the last one", new WordSamples().set(3, 1), 104729);
    }

    private void valueOutOfRange() {
        checks.about("2: BAD_VALUE if the value is out of its range: each setting has a range of its own");
        WordSamples samples = new WordSamples();
        int[][] refused = {{0, 0}, {0, 5}, {0, 32}, {1, 0}, {1, 33}, {1, 1000002}, {2, 0}, {2, 1000003}, {3, -1}, {3, 1000003}};
        for (int[] set : refused) {
            due("set(" + set[0] + ", " + set[1] + ")", samples.set(set[0], set[1]), BAD_VALUE);
        }
        due("changes after refused ones", samples.count(7), 0);
        int[][] right = {{0, 1}, {0, 4}, {1, 1}, {1, 32}, {2, 1}, {2, 1000002}, {3, 0}, {3, 1000002}};
        for (int[] set : right) {
            checks.holds("set(" + set[0] + ", " + set[1] + ") is right", samples.set(set[0], set[1]) >= 0);
            due("its value", samples.count(set[0] + 1), set[1]);
        }
        for (int far : FAR) {
            for (int setting = 0; setting < 4; setting++) {
                due("set(" + setting + ", " + far + ")", samples.set(setting, far), BAD_VALUE);
            }
        }
    }

    private void setIsAChange() {
        checks.about("2: This is a change");
        WordSamples samples = Checks.letters(8, "abc");
        due("words", samples.ofRow(0, 1), 3);
        samples.set(WordSamples.WIDTH, 2);
        due("words with WIDTH 2", samples.ofRow(0, 1), 2);
        due("undo()", samples.undo(), 5);
        due("words after undo()", samples.ofRow(0, 1), 3);
        due("WIDTH after undo()", samples.count(1), 1);
    }

    // ---- promise 3

    private void adds() {
        emptiesThePad();
        badTextOfAnEmptyPad();
        badTextOfABadSign();
        tooManyRows();
        rowsAreTheirOwn();
    }

    private void emptiesThePad() {
        checks.about("3: Makes a row of the signs of the pad, and empties the pad");
        WordSamples samples = new WordSamples();
        Checks.put(samples, FULL);
        due("add() of a full pad", samples.add(), 0);
        due("the pad", samples.count(6), 0);
        due("fault() of it", samples.fault(), 0);
        due("add() of it", samples.add(), BAD_TEXT);
        Checks.put(samples, "z");
        due("add() of one sign", samples.add(), 1);
        checks.rowIs("add() of one sign", samples, 1, "z");
        checks.rowIs("add() of a full pad", samples, 0, FULL);
    }

    private void badTextOfAnEmptyPad() {
        checks.about("3: BAD_TEXT if the pad is empty");
        WordSamples samples = new WordSamples();
        due("add()", samples.add(), BAD_TEXT);
        Checks.put(samples, "ab");
        samples.wipe();
        due("add() of a wiped pad", samples.add(), BAD_TEXT);
        due("rows", samples.count(0), 0);
        due("changes", samples.count(7), 0);
    }

    private void badTextOfABadSign() {
        checks.about("3: BAD_TEXT if some sign of it is neither a letter from a to z nor a dot");
        for (int place = 0; place < 64; place += 9) {
            for (char bad : "`{-/AZ!~09".toCharArray()) {
                WordSamples samples = new WordSamples();
                Checks.put(samples, FULL.substring(0, place) + bad + FULL.substring(place + 1));
                due("add() with " + bad + " at " + place, samples.add(), BAD_TEXT);
                due("the pad", samples.count(6), 64);
                due("rows", samples.count(0), 0);
            }
        }
        WordSamples samples = new WordSamples();
        due("add() with a bad sign at the end", Checks.add(samples, "az.A"), BAD_TEXT);
        due("the pad", samples.wipe(), 4);
        due("add() of the ends of the range", Checks.add(samples, "az."), 0);
        checks.rowIs("add() of the ends of the range", samples, 0, "az.");
    }

    private void tooManyRows() {
        checks.about("3: TOO_MANY if there are 10 rows");
        WordSamples samples = new WordSamples();
        for (int row = 0; row < 10; row++) {
            due("add()", Checks.add(samples, FULL.substring(row)), row);
        }
        Checks.put(samples, "ab");
        due("add() with 10 rows", samples.add(), TOO_MANY);
        due("the pad", samples.count(6), 2);
        due("append(9) with 10 rows", samples.append(9), 57);
        due("add() with 10 rows and an empty pad", samples.add(), BAD_TEXT);
        due("undo() of append", samples.undo(), 5);
        due("undo() of the tenth row", samples.undo(), 4);
        due("add() with 9 rows", Checks.add(samples, "z"), 9);
        due("add() with 10 rows again", Checks.add(samples, "y"), TOO_MANY);
    }

    private void rowsAreTheirOwn() {
        checks.about("3: Makes a row of the signs of the pad: nothing of an earlier row at its place is left");
        WordSamples samples = Checks.letters(8, FULL);
        due("words", samples.ofRow(0, 1), 16);
        samples.remove(0);
        due("add()", Checks.add(samples, "zz"), 0);
        checks.rowIs("add()", samples, 0, "zz");
        due("words", samples.ofRow(0, 1), 1);
    }

    // ---- promise 4

    private void appends() {
        noSuchRowToAppend();
        badTextToAppend();
        moreThanSixtyFour();
        appendIsAChange();
    }

    private void noSuchRowToAppend() {
        checks.about("4: NO_SUCH if there is no such row");
        WordSamples samples = Checks.letters(8, "a", "b");
        Checks.put(samples, "xy");
        for (int row : new int[] {Integer.MIN_VALUE, -1, 2, 9, 10, 64, Integer.MAX_VALUE}) {
            due("append(" + row + ")", samples.append(row), NO_SUCH);
        }
        due("the pad", samples.count(6), 2);
        due("append(1)", samples.append(1), 3);
        checks.rowIs("append(1)", samples, 0, "a");
        checks.rowIs("append(1)", samples, 1, "bxy");
    }

    private void badTextToAppend() {
        checks.about("4: BAD_TEXT as for add()");
        WordSamples samples = Checks.letters(8, "a");
        due("append(0) of an empty pad", samples.append(0), BAD_TEXT);
        for (String bad : new String[] {"A", "b#", "`", "{", "ab-cd", "z/"}) {
            Checks.put(samples, bad);
            due("append(0) of " + bad, samples.append(0), BAD_TEXT);
            due("the pad", samples.wipe(), bad.length());
        }
        checks.rowIs("append(0)", samples, 0, "a");
    }

    private void moreThanSixtyFour() {
        checks.about("4: TOO_MANY if the row would have more than 64 signs");
        for (int length = 1; length <= 64; length += 21) {
            WordSamples samples = Checks.letters(8, FULL.substring(0, length));
            Checks.put(samples, FULL.substring(length) + (length == 1 ? "z" : "zz"));
            due("append to " + length + " signs", samples.append(0), TOO_MANY);
            int pad = samples.wipe();
            due("the pad", pad, 64 - length + (length == 1 ? 1 : 2));
            Checks.put(samples, FULL.substring(length));
            due("append to 64 signs", samples.append(0), length == 64 ? BAD_TEXT : 64);
            checks.rowIs("append to 64 signs", samples, 0, FULL);
            Checks.put(samples, ".");
            due("append of one more", samples.append(0), TOO_MANY);
        }
    }

    private void appendIsAChange() {
        checks.about("4: Puts the signs of the pad at the end of a row, and empties the pad. This is a change");
        WordSamples samples = Checks.letters(8, "ab", "c");
        due("words", samples.ofRow(0, 1), 2);
        Checks.put(samples, "z.");
        due("append(0)", samples.append(0), 4);
        due("the pad", samples.count(6), 0);
        due("append(0) of it", samples.append(0), BAD_TEXT);
        due("words", samples.ofRow(0, 1), 4);
        checks.rowIs("append(0)", samples, 1, "c");
        samples.undo();
        checks.rowIs("undo()", samples, 0, "ab");
        due("words after undo()", samples.ofRow(0, 1), 2);
        due("the pad after undo()", samples.count(6), 0);
    }

    // ---- promise 5

    private void changes() {
        placesOfARow();
        signsOfAChange();
        changeIsAChange();
    }

    private void placesOfARow() {
        checks.about("5: place: 0 to the signs of the row less 1; NO_SUCH if there is no such row or place");
        WordSamples samples = Checks.letters(8, "abc", FULL, "z");
        int[][] refused = {
            {0, -1}, {0, 3}, {0, 63}, {0, 64}, {1, 64}, {1, -1}, {2, 1}, {2, -64}, {3, 0}, {-1, 0}, {-1, 64}, {10, 0},
            {Integer.MIN_VALUE, 0}, {Integer.MAX_VALUE, 0}, {0, Integer.MIN_VALUE}, {0, Integer.MAX_VALUE}, {1 << 26, 0}
        };
        for (int[] at : refused) {
            due("change(" + at[0] + ", " + at[1] + ", 5)", samples.change(at[0], at[1], 5), NO_SUCH);
        }
        due("change(0, 0, 5)", samples.change(0, 0, 5), 0);
        due("change(0, 2, 6)", samples.change(0, 2, 6), 2);
        due("change(1, 63, 25)", samples.change(1, 63, 25), 15);
        checks.rowIs("change", samples, 0, "fbg");
        checks.rowIs("change", samples, 1, FULL.substring(0, 63) + "z");
        checks.rowIs("change", samples, 2, "z");
        Checks.add(samples, "abcdefgh");
        samples.remove(3);
        due("change(3, 0, 5) of a row that was taken out", samples.change(3, 0, 5), NO_SUCH);
    }

    private void signsOfAChange() {
        checks.about("5: sign: 0 to 26: a to z, the dot; BAD_VALUE if sign is out of range");
        WordSamples samples = Checks.letters(8, "m");
        int previous = 12;
        for (int sign : new int[] {0, 26, 25, 1}) {
            due("change(0, 0, " + sign + ")", samples.change(0, 0, sign), previous);
            due("sign(0, 0)", samples.sign(0, 0), sign);
            previous = sign;
        }
        for (int sign : new int[] {Integer.MIN_VALUE, -6, -1, 27, 28, 'a', '.', Integer.MAX_VALUE}) {
            due("change(0, 0, " + sign + ")", samples.change(0, 0, sign), BAD_VALUE);
        }
        due("sign(0, 0) after refused ones", samples.sign(0, 0), 1);
    }

    private void changeIsAChange() {
        checks.about("5: Changes one sign of a row. This is a change");
        WordSamples samples = Checks.letters(8, "aba", "aba");
        due("words", samples.ofRow(0, 1), 2);
        samples.change(0, 1, 0);
        due("words after it", samples.ofRow(0, 1), 1);
        due("words of the other row", samples.ofRow(1, 1), 2);
        samples.undo();
        checks.rowIs("undo()", samples, 0, "aba");
        due("words after undo()", samples.ofRow(0, 1), 2);
    }

    // ---- promise 6

    private void removes() {
        checks.about("6: NO_SUCH if there is no such row");
        WordSamples samples = Checks.letters(8, "a", "bc");
        for (int row : new int[] {Integer.MIN_VALUE, -1, 2, 9, 10, Integer.MAX_VALUE}) {
            due("remove(" + row + ")", samples.remove(row), NO_SUCH);
        }
        due("rows", samples.count(0), 2);

        checks.about("6: Returns how many rows there are then");
        due("remove(1) of the last row", samples.remove(1), 1);
        checks.rowIs("remove(1)", samples, 0, "a");
        due("remove(1) again", samples.remove(1), NO_SUCH);
        due("remove(0) of the only row", samples.remove(0), 0);
        due("remove(0) of none", samples.remove(0), NO_SUCH);
        due("undo()", samples.undo(), 5);
        due("undo()", samples.undo(), 4);
        checks.rowIs("undo() of remove", samples, 1, "bc");
        removesOfTen();
    }

    private void removesOfTen() {
        checks.about("6: Takes a row out");
        for (int out : new int[] {0, 4, 9}) {
            WordSamples samples = new WordSamples();
            for (int row = 0; row < 10; row++) {
                Checks.add(samples, FULL.substring(0, 5 + row));
            }
            due("words before it", samples.count(5), 12);
            due("remove(" + out + ")", samples.remove(out), 9);
            for (int row = 0; row < 9; row++) {
                due("signs of row " + row, samples.ofRow(row, 0), row < out ? 5 + row : 6 + row);
                due("words of row " + row, samples.ofRow(row, 1), row < out ? 3 + row : 4 + row);
            }
            due("row 9", samples.ofRow(9, 0), NO_SUCH);
            due("words after it", samples.count(5), out == 9 ? 11 : 12);
        }
    }

    // ---- promise 22

    private void undos() {
        nothingToUndo();
        sixStates();
        oldestIsDropped();
        recordedThoughNothingIsDifferent();
        errorsAreNotRecorded();
        otherMethodsAreNotRecorded();
        exceptThePad();
        exceptTheSlots();
        undoneInEachRow();
        undoneSettings();
        undoneChangesAreGone();
    }

    private void nothingToUndo() {
        checks.about("22: NOT_POSSIBLE if there is none");
        WordSamples samples = new WordSamples();
        due("undo() of a new object", samples.undo(), NOT_POSSIBLE);
        Checks.add(samples, "ab");
        due("undo() of the only change", samples.undo(), 0);
        due("undo() of none", samples.undo(), NOT_POSSIBLE);
        due("undo() of none again", samples.undo(), NOT_POSSIBLE);
        due("count(7)", samples.count(7), 0);
        due("rows", samples.count(0), 0);
    }

    private void sixStates() {
        checks.about("22: A history of at most 6 states is kept");
        WordSamples samples = new WordSamples();
        for (int change = 1; change <= 20; change++) {
            samples.set(WordSamples.OFFSET, change);
            due("count(7) after " + change, samples.count(7), Math.min(6, change));
        }
        for (int left = 5; left >= 0; left--) {
            due("undo()", samples.undo(), left);
            due("count(7)", samples.count(7), left);
        }
        due("undo() of a seventh", samples.undo(), NOT_POSSIBLE);
    }

    private void oldestIsDropped() {
        checks.about("22: when one more is recorded, the oldest one is dropped");
        for (int changes = 5; changes <= 8; changes++) {
            WordSamples samples = new WordSamples();
            for (int change = 1; change <= changes; change++) {
                Checks.add(samples, "" + (char) ('a' + change));
            }
            for (int rows = changes - 1; rows >= Math.max(0, changes - 6); rows--) {
                samples.undo();
                due("rows after undo()", samples.count(0), rows);
                due("the last one", samples.sign(rows - 1, 0), rows == 0 ? NO_SUCH : rows);
            }
            due("undo() of " + changes + " changes", samples.undo(), NOT_POSSIBLE);
        }
    }

    private void recordedThoughNothingIsDifferent() {
        checks.about("22: records the state before it (also if nothing is different then)");
        WordSamples samples = new WordSamples();
        Checks.add(samples, "ab");
        samples.save(1);
        due("set to the same", samples.set(WordSamples.KEPT, 8), 8);
        due("count(7)", samples.count(7), 2);
        due("change to the same", samples.change(0, 0, 0), 0);
        due("count(7)", samples.count(7), 3);
        due("restore of the same", samples.restore(1), 1);
        due("count(7)", samples.count(7), 4);
        due("undo()", samples.undo(), 3);
        due("undo()", samples.undo(), 2);
        due("undo()", samples.undo(), 1);
        checks.rowIs("undo()", samples, 0, "ab");
        due("undo() of add", samples.undo(), 0);
        due("rows", samples.count(0), 0);
    }

    private void errorsAreNotRecorded() {
        checks.about("22: each method that is a change, and returns no error, records the state before it");
        WordSamples samples = new WordSamples();
        Checks.add(samples, "ab");
        due("set", samples.set(0, 5), BAD_VALUE);
        due("add", samples.add(), BAD_TEXT);
        due("append", samples.append(0), BAD_TEXT);
        due("append", samples.append(1), NO_SUCH);
        due("change", samples.change(0, 2, 0), NO_SUCH);
        due("change", samples.change(0, 0, 27), BAD_VALUE);
        due("remove", samples.remove(1), NO_SUCH);
        due("restore", samples.restore(0), NOT_POSSIBLE);
        due("restore", samples.restore(2), BAD_VALUE);
        due("count(7)", samples.count(7), 1);
        Checks.put(samples, "c");
        samples.append(0);
        due("count(7) after append", samples.count(7), 2);
        samples.change(0, 0, 1);
        due("count(7) after change", samples.count(7), 3);
        samples.save(0);
        samples.remove(0);
        due("count(7) after remove", samples.count(7), 4);
        samples.restore(0);
        due("count(7) after restore", samples.count(7), 5);
        samples.set(0, 1);
        due("count(7) after set", samples.count(7), 6);
    }

    private void otherMethodsAreNotRecorded() {
        checks.about("22: each method that is a change records the state before it: no other one");
        WordSamples samples = Checks.letters(8, "ab", "bc");
        samples.undo();
        int before = samples.count(7);
        Checks.put(samples, "xy");
        samples.fault();
        samples.wipe();
        samples.save(0);
        samples.save(1);
        samples.ofRow(0, 3);
        samples.sign(0, 0);
        samples.sample(0, 0, 0);
        samples.told(0, 0, 4);
        samples.exact(0, 0, 2);
        samples.inside(0, 0, 2);
        samples.nearest(0, 0);
        samples.candidates(0);
        samples.worst(0);
        samples.bestKept(0);
        samples.group(0, 0);
        due("count(7)", samples.count(7), before);
        due("undo()", samples.undo(), before - 1);
        due("rows", samples.count(0), 0);
    }

    private void exceptThePad() {
        checks.about("22: everything except the pad, the slots and the history is as it was before it: the pad");
        WordSamples samples = new WordSamples();
        Checks.add(samples, "ab");
        Checks.put(samples, "xy#");
        due("undo() of add", samples.undo(), 0);
        due("the pad", samples.count(6), 3);
        due("fault()", samples.fault(), 2);
        due("rows", samples.count(0), 0);
        samples.wipe();
        samples.set(WordSamples.WIDTH, 1);
        due("undo() leaves an empty pad empty", samples.undo() + samples.count(6), 0);
    }

    private void exceptTheSlots() {
        checks.about("22: everything except the pad, the slots and the history is as it was before it: the slots");
        WordSamples samples = new WordSamples();
        Checks.add(samples, "ab");
        samples.save(0);
        samples.undo();
        due("restore(0) of what was saved before undo()", samples.restore(0), 1);
        checks.rowIs("restore(0)", samples, 0, "ab");
        due("undo() of restore", samples.undo(), 0);
        due("rows", samples.count(0), 0);
        due("restore(0) again", samples.restore(0), 1);
        due("slot 1", samples.restore(1), NOT_POSSIBLE);
    }

    private void undoneInEachRow() {
        checks.about("22: everything is as it was before it: the signs of each row, the first and the last ones");
        for (int row = 0; row < 10; row++) {
            WordSamples samples = new WordSamples();
            for (int each = 0; each < 10; each++) {
                Checks.add(samples, each == row ? FULL : "ab");
            }
            samples.save(0);
            samples.change(row, 0, 25);
            samples.change(row, 63, 26);
            due("undo()", samples.undo(), 5);
            due("the last sign of row " + row, samples.sign(row, 63), 15);
            due("undo()", samples.undo(), 4);
            due("the first sign of row " + row, samples.sign(row, 0), 0);
            samples.change(row, 63, 24);
            due("restore(0)", samples.restore(0), 10);
            checks.rowIs("restore(0)", samples, row, FULL);
            samples.remove(row);
            samples.undo();
            checks.rowIs("undo() of remove(" + row + ")", samples, row, FULL);
            due("rows", samples.count(0), 10);
        }
    }

    private void undoneSettings() {
        checks.about("22: everything is as it was before it: each setting");
        int[] first = {3, 8, 7919, 104729};
        for (int setting = 0; setting < 4; setting++) {
            WordSamples samples = new WordSamples();
            samples.save(1);
            samples.set(setting, 1);
            samples.set(setting, 2);
            samples.undo();
            due("setting " + setting + " after undo()", samples.count(setting + 1), 1);
            samples.restore(1);
            due("setting " + setting + " after restore(1)", samples.count(setting + 1), first[setting]);
            samples.undo();
            due("setting " + setting + " after undo() of restore", samples.count(setting + 1), 1);
            samples.undo();
            due("setting " + setting + " after the last undo()", samples.count(setting + 1), first[setting]);
        }
    }

    private void undoneChangesAreGone() {
        checks.about("22: Undoes the latest change");
        WordSamples samples = new WordSamples();
        samples.set(WordSamples.OFFSET, 1);
        samples.set(WordSamples.OFFSET, 2);
        due("undo()", samples.undo(), 1);
        samples.set(WordSamples.OFFSET, 3);
        due("undo()", samples.undo(), 1);
        due("OFFSET", samples.count(4), 1);
        due("undo()", samples.undo(), 0);
        due("OFFSET", samples.count(4), 104729);
    }

    // ---- promise 23

    private void saves() {
        noSuchSlotToSave();
        rowsThatWereSaved();
        overwritten();
        saveIsNoChange();
        savedExceptThePad();
        savedExceptTheHistory();
    }

    private void noSuchSlotToSave() {
        checks.about("23: slot: 0 or 1; BAD_VALUE if there is no such slot");
        WordSamples samples = Checks.letters(8, "ab");
        for (int slot : new int[] {Integer.MIN_VALUE, -1, 2, 3, Integer.MAX_VALUE}) {
            due("save(" + slot + ")", samples.save(slot), BAD_VALUE);
        }
        due("restore(0) after refused ones", samples.restore(0), NOT_POSSIBLE);
        due("restore(1) after refused ones", samples.restore(1), NOT_POSSIBLE);
        due("save(0)", samples.save(0), 1);
        due("restore(1): slot 0 alone was saved", samples.restore(1), NOT_POSSIBLE);
        due("save(1)", samples.save(1), 1);
        due("restore(1)", samples.restore(1), 1);
    }

    private void rowsThatWereSaved() {
        checks.about("23: Returns how many rows there are");
        WordSamples samples = new WordSamples();
        due("save(0) of no row", samples.save(0), 0);
        due("restore(0) of no row", samples.restore(0), 0);
        for (int row = 0; row < 10; row++) {
            Checks.add(samples, FULL.substring(0, 64 - row));
            due("save(1)", samples.save(1), row + 1);
        }
        due("restore(0) of no row", samples.restore(0), 0);
        due("restore(1) of 10 rows", samples.restore(1), 10);
        checks.rowIs("restore(1)", samples, 0, FULL);
        checks.rowIs("restore(1)", samples, 9, FULL.substring(0, 55));
    }

    private void overwritten() {
        checks.about("23: overwrites what was saved there");
        WordSamples samples = Checks.letters(8, "abc", "de");
        samples.save(0);
        samples.save(1);
        samples.remove(1);
        samples.change(0, 0, 25);
        due("save(0)", samples.save(0), 1);
        due("restore(1)", samples.restore(1), 2);
        checks.rowIs("restore(1)", samples, 0, "abc");
        due("restore(0)", samples.restore(0), 1);
        checks.rowIs("restore(0)", samples, 0, "zbc");
    }

    private void saveIsNoChange() {
        checks.about("23: Saves everything: what is changed later is not saved");
        WordSamples samples = Checks.letters(8, "abc");
        int before = samples.count(7);
        samples.save(0);
        due("count(7)", samples.count(7), before);
        samples.set(WordSamples.WIDTH, 2);
        samples.change(0, 0, 25);
        Checks.add(samples, "q");
        due("restore(0)", samples.restore(0), 1);
        due("WIDTH", samples.count(1), 1);
        checks.rowIs("restore(0)", samples, 0, "abc");
    }

    private void savedExceptThePad() {
        checks.about("23: everything except the pad, the history and the slots: the pad");
        WordSamples samples = Checks.letters(8, "abc");
        Checks.put(samples, "xy");
        samples.save(0);
        due("save leaves the pad", samples.wipe(), 2);
        samples.restore(0);
        due("restore gives no pad back", samples.count(6), 0);
        Checks.put(samples, "pq.");
        samples.restore(0);
        due("restore leaves the pad", samples.count(6), 3);
        due("add() of it", samples.add(), 1);
        checks.rowIs("add() of it", samples, 1, "pq.");
    }

    private void savedExceptTheHistory() {
        checks.about("23: everything except the pad, the history and the slots: the history");
        WordSamples samples = new WordSamples();
        samples.set(WordSamples.OFFSET, 1);
        samples.save(0);
        samples.set(WordSamples.OFFSET, 2);
        samples.set(WordSamples.OFFSET, 3);
        samples.restore(0);
        due("count(7)", samples.count(7), 4);
        due("undo() of restore", samples.undo(), 3);
        due("OFFSET", samples.count(4), 3);
        due("undo()", samples.undo(), 2);
        due("OFFSET", samples.count(4), 2);
    }

    // ---- promise 24

    private void restores() {
        noSuchSlotToRestore();
        nothingWasSaved();
        slotKeepsIt();
        restoreIsAChange();
        restoreOfWords();
    }

    private void noSuchSlotToRestore() {
        checks.about("24: BAD_VALUE if there is no such slot");
        WordSamples samples = Checks.letters(8, "ab");
        for (int slot : new int[] {Integer.MIN_VALUE, -1, 2, 3, Integer.MAX_VALUE}) {
            due("restore(" + slot + ") of none", samples.restore(slot), BAD_VALUE);
        }
        samples.save(0);
        samples.save(1);
        for (int slot : new int[] {Integer.MIN_VALUE, -1, 2, 3, Integer.MAX_VALUE}) {
            due("restore(" + slot + ")", samples.restore(slot), BAD_VALUE);
        }
    }

    private void nothingWasSaved() {
        checks.about("24: NOT_POSSIBLE if nothing was saved in it");
        for (int slot = 0; slot < 2; slot++) {
            WordSamples samples = Checks.letters(8, "ab");
            due("restore(" + slot + ")", samples.restore(slot), NOT_POSSIBLE);
            samples.save(1 - slot);
            due("restore(" + slot + ") with the other one saved", samples.restore(slot), NOT_POSSIBLE);
            due("rows", samples.count(0), 1);
            samples.save(slot);
            due("restore(" + slot + ")", samples.restore(slot), 1);
        }
    }

    private void slotKeepsIt() {
        checks.about("24: Restores what was saved last in a slot, which keeps it");
        WordSamples samples = Checks.letters(8, "abc");
        samples.save(1);
        for (int time = 0; time < 3; time++) {
            samples.change(0, time, 25);
            samples.set(WordSamples.KEPT, 1 + time);
            Checks.add(samples, "q");
            due("restore(1)", samples.restore(1), 1);
            checks.rowIs("restore(1)", samples, 0, "abc");
            due("KEPT", samples.count(2), 8);
        }
    }

    private void restoreIsAChange() {
        checks.about("24: This is a change");
        WordSamples samples = Checks.letters(8, "abc");
        samples.save(0);
        samples.remove(0);
        Checks.add(samples, "xy");
        Checks.add(samples, "z");
        due("restore(0)", samples.restore(0), 1);
        due("count(7)", samples.count(7), 6);
        due("undo()", samples.undo(), 5);
        due("rows", samples.count(0), 2);
        checks.rowIs("undo()", samples, 0, "xy");
        checks.rowIs("undo()", samples, 1, "z");
    }

    private void restoreOfWords() {
        checks.about("24: Returns how many rows there are then; their words are those that were saved");
        WordSamples samples = Checks.letters(8, "abc", "abd");
        samples.save(0);
        due("exact(0, 1, 1)", samples.exact(0, 1, 1), 2);
        samples.change(1, 0, 25);
        due("exact(0, 1, 1) after change", samples.exact(0, 1, 1), 1);
        due("restore(0)", samples.restore(0), 2);
        due("exact(0, 1, 1) after restore(0)", samples.exact(0, 1, 1), 2);
        samples.undo();
        due("exact(0, 1, 1) after undo()", samples.exact(0, 1, 1), 1);
    }
}
