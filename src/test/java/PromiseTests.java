/**
 * Each promise by itself. The answers that are due were worked out by hand: mostly with WIDTH 1, FACTOR 1 and
 * OFFSET 0, where the words of a row are its letters, and their values are 0 for a to 26 for the dot.
 */
public final class PromiseTests {
    private static final int NO_SUCH = -1, BAD_VALUE = -2, BAD_TEXT = -3, TOO_MANY = -4, NOT_POSSIBLE = -5, NONE = -6;
    private static final String FULL = Checks.FULL;

    private final Checks checks = new Checks();

    public static void main(String[] args) {
        PromiseTests tests = new PromiseTests();
        tests.newObject();
        tests.set();
        tests.add();
        tests.append();
        tests.change();
        tests.remove();
        tests.ofRow();
        tests.sign();
        tests.sample();
        tests.sampleOfWideWords();
        tests.sampleOfGreatSettings();
        tests.count();
        tests.told();
        tests.toldOfOneRow();
        tests.exact();
        tests.inside();
        tests.nearest();
        tests.candidates();
        tests.worst();
        tests.bestKept();
        tests.bestKeptOfLongRows();
        tests.group();
        tests.put();
        tests.wipe();
        tests.fault();
        tests.undo();
        tests.undoOfEachChange();
        tests.errorsAreNoChanges();
        tests.save();
        tests.restore();
        tests.checks.end("PromiseTests");
    }

    private void due(String call, long got, long want) {
        checks.due(call, got, want);
    }

    private static WordSamples letters(int kept, String... rows) {
        return Checks.letters(kept, rows);
    }

    private void rowIs(String when, WordSamples samples, int row, String text) {
        checks.rowIs(when, samples, row, text);
    }

    // Promise 1
    private void newObject() {
        WordSamples samples = new WordSamples();
        int[] counts = {0, 3, 8, 7919, 104729, 0, 0, 0};
        for (int what = 0; what < counts.length; what++) {
            due("new: count(" + what + ")", samples.count(what), counts[what]);
        }
        due("new: undo()", samples.undo(), NOT_POSSIBLE);
        due("new: restore(0)", samples.restore(0), NOT_POSSIBLE);
        due("new: restore(1)", samples.restore(1), NOT_POSSIBLE);
        due("new: ofRow(0, 0)", samples.ofRow(0, 0), NO_SUCH);
        samples.set(0, 1);
        Checks.add(samples, "a");
        due("two objects have nothing in common", new WordSamples().count(0), 0);
        due("two objects have no settings in common", new WordSamples().count(1), 3);
    }

    // Promise 2
    private void set() {
        int[] least = {1, 1, 1, 0};
        int[] most = {4, 32, 1000002, 1000002};
        int[] first = {3, 8, 7919, 104729};
        for (int setting = 0; setting < 4; setting++) {
            WordSamples samples = new WordSamples();
            String call = "set(" + setting + ", ..) ";
            due(call + "below", samples.set(setting, least[setting] - 1), BAD_VALUE);
            due(call + "above", samples.set(setting, most[setting] + 1), BAD_VALUE);
            due(call + "least int", samples.set(setting, Integer.MIN_VALUE), BAD_VALUE);
            due(call + "greatest int", samples.set(setting, Integer.MAX_VALUE), BAD_VALUE);
            due(call + "errors leave it", samples.count(setting + 1), first[setting]);
            due(call + "errors are not recorded", samples.count(7), 0);
            due(call + "least", samples.set(setting, least[setting]), first[setting]);
            due(call + "most", samples.set(setting, most[setting]), least[setting]);
            due(call + "the same", samples.set(setting, most[setting]), most[setting]);
            due(call + "stands", samples.count(setting + 1), most[setting]);
            due(call + "recorded", samples.count(7), 3);
            for (int other = 0; other < 4; other++) {
                if (other != setting) {
                    due(call + "leaves " + other, samples.count(other + 1), first[other]);
                }
            }
        }
        WordSamples samples = new WordSamples();
        due("set(-1, 1)", samples.set(-1, 1), BAD_VALUE);
        due("set(4, 1)", samples.set(4, 1), BAD_VALUE);
        due("set(greatest int, 1)", samples.set(Integer.MAX_VALUE, 1), BAD_VALUE);
        due("set(least int, 1)", samples.set(Integer.MIN_VALUE, 1), BAD_VALUE);
    }

    // Promise 3
    private void add() {
        WordSamples samples = new WordSamples();
        due("add() of an empty pad", samples.add(), BAD_TEXT);
        Checks.put(samples, "az.b");
        due("add()", samples.add(), 0);
        due("add() empties the pad", samples.count(6), 0);
        rowIs("add()", samples, 0, "az.b");
        due("add() of the pad that it emptied", samples.add(), BAD_TEXT);
        for (String bad : new String[] {"A", "z{", "`", "ab-cd", "a/", "0"}) {
            Checks.put(samples, bad);
            due("add() of " + bad, samples.add(), BAD_TEXT);
            due("add() of " + bad + " leaves the pad", samples.wipe(), bad.length());
        }
        due("the bad ones made no row", samples.count(0), 1);
        due("the bad ones are not recorded", samples.count(7), 1);
        due("add() of 64 signs", Checks.add(samples, FULL), 1);
        rowIs("add() of 64 signs", samples, 1, FULL);
        for (int row = 2; row < 10; row++) {
            due("add() of row " + row, Checks.add(samples, "." + (char) ('a' + row)), row);
        }
        due("add() with 10 rows and an empty pad", samples.add(), BAD_TEXT);
        Checks.put(samples, "#");
        due("add() with 10 rows and a bad pad", samples.add(), BAD_TEXT);
        samples.wipe();
        Checks.put(samples, "abc");
        due("add() with 10 rows", samples.add(), TOO_MANY);
        due("add() with 10 rows leaves the pad", samples.count(6), 3);
        due("add() with 10 rows leaves them", samples.count(0), 10);
        due("remove(0)", samples.remove(0), 9);
        due("add() with 9 rows", samples.add(), 9);
        rowIs("add() with 9 rows", samples, 9, "abc");
        rowIs("add() with 9 rows", samples, 8, ".j");
    }

    // Promise 4
    private void append() {
        WordSamples samples = letters(8, "abc", FULL.substring(1));
        due("append(0) of an empty pad", samples.append(0), BAD_TEXT);
        due("append(2) of an empty pad", samples.append(2), NO_SUCH);
        due("append(-1)", samples.append(-1), NO_SUCH);
        due("append(least int)", samples.append(Integer.MIN_VALUE), NO_SUCH);
        due("append(greatest int)", samples.append(Integer.MAX_VALUE), NO_SUCH);
        Checks.put(samples, "x.");
        due("words before append(0)", samples.ofRow(0, 1), 3);
        due("append(1) with 65 signs", samples.append(1), TOO_MANY);
        due("append(1) with 65 signs leaves the pad", samples.count(6), 2);
        due("append(1) with 65 signs leaves the row", samples.ofRow(1, 0), 63);
        due("append(0)", samples.append(0), 5);
        due("append(0) empties the pad", samples.count(6), 0);
        due("words after append(0)", samples.ofRow(0, 1), 5);
        rowIs("append(0)", samples, 0, "abcx.");
        Checks.put(samples, "a?");
        due("append(0) of a bad pad", samples.append(0), BAD_TEXT);
        due("append(1) of a bad pad that is too long", samples.append(1), BAD_TEXT);
        due("append(7) of a bad pad", samples.append(7), NO_SUCH);
        due("the bad pad stays", samples.wipe(), 2);
        rowIs("append(0) of a bad pad", samples, 0, "abcx.");
        Checks.put(samples, "z");
        due("append(1) with 64 signs", samples.append(1), 64);
        rowIs("append(1) with 64 signs", samples, 1, FULL.substring(1) + "z");
        Checks.put(samples, "a");
        due("append(1) to a full row", samples.append(1), TOO_MANY);
        Checks.put(samples, FULL.substring(1));
        due("append(0) of a full pad", samples.append(0), TOO_MANY);
        due("no such row comes first", samples.append(2), NO_SUCH);
    }

    // Promise 5
    private void change() {
        WordSamples samples = letters(8, "abc", "zz.");
        due("change(1, 2, 3)", samples.change(1, 2, 3), 26);
        due("change(1, 0, 26)", samples.change(1, 0, 26), 25);
        due("change(0, 1, 0)", samples.change(0, 1, 0), 1);
        rowIs("change", samples, 0, "aac");
        rowIs("change", samples, 1, ".zd");
        due("words after a change", samples.ofRow(0, 1), 2);
        due("change(0, 1, 5)", samples.change(0, 1, 5), 0);
        due("words after another change", samples.ofRow(0, 1), 3);
        due("change(0, 1, 5) to the same", samples.change(0, 1, 5), 5);
        due("change(0, 3, 0)", samples.change(0, 3, 0), NO_SUCH);
        due("change(0, -1, 0)", samples.change(0, -1, 0), NO_SUCH);
        due("change(2, 0, 0)", samples.change(2, 0, 0), NO_SUCH);
        due("change(-1, 0, 0)", samples.change(-1, 0, 0), NO_SUCH);
        due("change(0, 64, 0)", samples.change(0, 64, 0), NO_SUCH);
        due("change(greatest int, greatest int, 0)", samples.change(Integer.MAX_VALUE, Integer.MAX_VALUE, 0), NO_SUCH);
        due("change(least int, 0, 0)", samples.change(Integer.MIN_VALUE, 0, 0), NO_SUCH);
        due("change(0, 3, 27)", samples.change(0, 3, 27), NO_SUCH);
        due("change(2, 0, -1)", samples.change(2, 0, -1), NO_SUCH);
        due("change(0, 0, 27)", samples.change(0, 0, 27), BAD_VALUE);
        due("change(0, 0, -1)", samples.change(0, 0, -1), BAD_VALUE);
        due("change(0, 0, greatest int)", samples.change(0, 0, Integer.MAX_VALUE), BAD_VALUE);
        rowIs("change with errors", samples, 0, "afc");
    }

    // Promise 6
    private void remove() {
        WordSamples samples = letters(8, "a", "bcd", "ef", "g");
        due("words of row 1", samples.ofRow(1, 1), 3);
        due("remove(4)", samples.remove(4), NO_SUCH);
        due("remove(-1)", samples.remove(-1), NO_SUCH);
        due("remove(least int)", samples.remove(Integer.MIN_VALUE), NO_SUCH);
        due("remove(1)", samples.remove(1), 3);
        due("remove(1): rows", samples.count(0), 3);
        rowIs("remove(1)", samples, 0, "a");
        rowIs("remove(1)", samples, 1, "ef");
        rowIs("remove(1)", samples, 2, "g");
        due("remove(1): words of row 1", samples.ofRow(1, 1), 2);
        due("remove(1): row 3", samples.ofRow(3, 0), NO_SUCH);
        due("remove(2)", samples.remove(2), 2);
        due("remove(0)", samples.remove(0), 1);
        rowIs("remove(0)", samples, 0, "ef");
        due("remove(0) of the last one", samples.remove(0), 0);
        due("remove(0) of none", samples.remove(0), NO_SUCH);
        for (int row = 0; row < 10; row++) {
            Checks.add(samples, FULL.substring(row));
        }
        due("remove(9) of 10", samples.remove(9), 9);
        rowIs("remove(9) of 10", samples, 8, FULL.substring(8));
        Checks.add(samples, "z");
        due("remove(0) of 10", samples.remove(0), 9);
        rowIs("remove(0) of 10", samples, 0, FULL.substring(1));
        rowIs("remove(0) of 10", samples, 8, "z");
    }

    // Promise 7
    private void ofRow() {
        WordSamples samples = letters(2, "dabda", "c");
        int[] wants = {5, 3, 2, 1};
        for (int what = 0; what < 4; what++) {
            due("ofRow(0, " + what + ")", samples.ofRow(0, what), wants[what]);
        }
        due("ofRow(1, 2)", samples.ofRow(1, 2), 1);
        due("ofRow(1, 3)", samples.ofRow(1, 3), 2);
        due("ofRow(0, 4)", samples.ofRow(0, 4), BAD_VALUE);
        due("ofRow(0, -1)", samples.ofRow(0, -1), BAD_VALUE);
        due("ofRow(2, 0)", samples.ofRow(2, 0), NO_SUCH);
        due("ofRow(-1, 0)", samples.ofRow(-1, 0), NO_SUCH);
        due("ofRow(2, 4)", samples.ofRow(2, 4), NO_SUCH);
        samples.set(WordSamples.KEPT, 32);
        due("ofRow(0, 2) with KEPT 32", samples.ofRow(0, 2), 3);
        due("ofRow(0, 3) with KEPT 32", samples.ofRow(0, 3), 3);
        samples.set(WordSamples.WIDTH, 2);
        // da, ab, bd, da
        due("ofRow(0, 1) with WIDTH 2", samples.ofRow(0, 1), 3);
        due("ofRow(0, 3) with WIDTH 2", samples.ofRow(0, 3), 81);
        due("ofRow(1, 1) of a row that is too short", samples.ofRow(1, 1), 0);
        due("ofRow(1, 2) of a row that is too short", samples.ofRow(1, 2), 0);
        due("ofRow(1, 3) of a row that is too short", samples.ofRow(1, 3), NONE);
        samples.set(WordSamples.WIDTH, 4);
        due("ofRow(0, 1) with WIDTH 4", samples.ofRow(0, 1), 2);
    }

    // Promise 8
    private void sign() {
        WordSamples samples = letters(8, "a", "z.m");
        rowIs("sign", samples, 0, "a");
        rowIs("sign", samples, 1, "z.m");
        due("sign(0, -1)", samples.sign(0, -1), NO_SUCH);
        due("sign(1, 3)", samples.sign(1, 3), NO_SUCH);
        due("sign(2, 0)", samples.sign(2, 0), NO_SUCH);
        due("sign(-1, 64)", samples.sign(-1, 64), NO_SUCH);
        due("sign(0, greatest int)", samples.sign(0, Integer.MAX_VALUE), NO_SUCH);
        due("sign(0, least int)", samples.sign(0, Integer.MIN_VALUE), NO_SUCH);
        due("sign(greatest int, 0)", samples.sign(Integer.MAX_VALUE, 0), NO_SUCH);
    }

    // Promise 9
    private void sample() {
        WordSamples samples = letters(2, "cabcac");
        int[][] wants = {{0, 0, 2}, {1, 1, 1}};
        for (int place = 0; place < 2; place++) {
            for (int what = 0; what < 3; what++) {
                due("sample(0, " + place + ", " + what + ")", samples.sample(0, place, what), wants[place][what]);
            }
        }
        due("sample(0, 2, 0) beyond KEPT", samples.sample(0, 2, 0), NO_SUCH);
        due("sample(0, -1, 0)", samples.sample(0, -1, 0), NO_SUCH);
        due("sample(1, 0, 0)", samples.sample(1, 0, 0), NO_SUCH);
        due("sample(-1, 0, 0)", samples.sample(-1, 0, 0), NO_SUCH);
        due("sample(0, 2, 3)", samples.sample(0, 2, 3), NO_SUCH);
        due("sample(0, 0, 3)", samples.sample(0, 0, 3), BAD_VALUE);
        due("sample(0, 0, -1)", samples.sample(0, 0, -1), BAD_VALUE);
        samples.set(WordSamples.KEPT, 3);
        due("sample(0, 2, 2) with KEPT 3", samples.sample(0, 2, 2), 3);
        samples.set(WordSamples.KEPT, 32);
        due("sample(0, 3, 0) beyond the words", samples.sample(0, 3, 0), NO_SUCH);
        due("sample(0, greatest int, 0)", samples.sample(0, Integer.MAX_VALUE, 0), NO_SUCH);
    }

    private void sampleOfWideWords() {
        WordSamples samples = letters(32, "aaaab", "a.z.");
        samples.set(WordSamples.WIDTH, 3);
        due("aaa stands twice, one over the other", samples.sample(0, 0, 2), 2);
        due("aab, its code", samples.sample(0, 1, 1), 1);
        due("a.z: 26 * 27 + 25", samples.sample(1, 0, 1), 727);
        due(".z.: 26 * 729 + 25 * 27 + 26", samples.sample(1, 1, 1), 19655);
        samples.set(WordSamples.WIDTH, 4);
        due("a.z.: 26 * 729 + 25 * 27 + 26", samples.sample(1, 0, 1), 19655);
        due("aaaa stands once", samples.sample(0, 0, 2), 1);
        due("words of a row of WIDTH signs", samples.ofRow(1, 1), 1);
        samples.set(WordSamples.WIDTH, 2);
        due("z.: 25 * 27 + 26", samples.sample(1, 1, 1), 701);
        due(".z: 26 * 27 + 25", samples.sample(1, 2, 1), 727);
    }

    /** The greatest word with the greatest settings, and an order of the values that is not the one of the codes. */
    private void sampleOfGreatSettings() {
        WordSamples samples = letters(32, "....", "abc");
        samples.set(WordSamples.WIDTH, 4);
        samples.set(WordSamples.FACTOR, 1000002);
        samples.set(WordSamples.OFFSET, 1000002);
        due("....: its code", samples.sample(0, 0, 1), 531440);
        // FACTOR and OFFSET are both -1 here: 1000003 - 531440 - 1
        due("....: its value", samples.sample(0, 0, 0), 468562);
        samples.set(WordSamples.WIDTH, 1);
        due("c: 1000003 - 2 - 1", samples.sample(1, 0, 0), 1000000);
        due("c comes first", samples.sample(1, 0, 1), 2);
        due("a comes last", samples.sample(1, 2, 1), 0);
        due("a: 1000003 - 1", samples.sample(1, 2, 0), 1000002);
        due("the greatest value of all", samples.ofRow(1, 3), 1000002);
        samples.set(WordSamples.OFFSET, 1);
        // b has the value 0 and a the value 1; c is 1000003 - 1
        due("b comes first", samples.sample(1, 0, 1), 1);
        due("b has the value 0", samples.sample(1, 0, 0), 0);
        due("c comes last", samples.sample(1, 2, 0), 1000002);
    }

    // Promise 10
    private void count() {
        WordSamples samples = letters(5, "abc", "bcd", "dda");
        samples.set(WordSamples.OFFSET, 77);
        Checks.put(samples, "ab");
        int[] wants = {3, 1, 5, 1, 77, 4, 2, 6};
        for (int what = 0; what < wants.length; what++) {
            due("count(" + what + ")", samples.count(what), wants[what]);
        }
        due("count(-1)", samples.count(-1), BAD_VALUE);
        due("count(8)", samples.count(8), BAD_VALUE);
        due("count(least int)", samples.count(Integer.MIN_VALUE), BAD_VALUE);
        samples.set(WordSamples.WIDTH, 2);
        // ab bc, bc cd, dd da
        due("count(5) with WIDTH 2", samples.count(5), 5);
        samples.set(WordSamples.KEPT, 1);
        due("count(5) is of all words, not of samples", samples.count(5), 5);
        samples.set(WordSamples.WIDTH, 4);
        due("count(5) with rows that are too short", samples.count(5), 0);
        samples.set(WordSamples.WIDTH, 2);
        samples.remove(2);
        due("count(5) after remove(2)", samples.count(5), 3);
        countOfFullRows();
    }

    private void countOfFullRows() {
        WordSamples samples = new WordSamples();
        samples.set(WordSamples.WIDTH, 2);
        String signs = "abcdefghijklmnopqrstuvwxyz.";
        // Each row goes through all signs, in steps of its own, so that it shares no word with another row.
        int[] steps = {1, 2, 4, 5, 7, 8, 10, 11, 13, 14};
        for (int row = 0; row < 10; row++) {
            StringBuilder text = new StringBuilder();
            for (int place = 0; place < 64; place++) {
                text.append(signs.charAt(place * steps[row] % 27));
            }
            due("add() of a row in steps", Checks.add(samples, text.toString()), row);
        }
        due("count(5) of 10 rows with 27 words each", samples.count(5), 270);
    }

    // Promise 11
    private void told() {
        WordSamples samples = letters(3, "abcd", "cdef", "abx", "zzz");
        // Rows 0 and 1: common sample a b c, c shared; the rests are d, and d e f.
        dueTold(samples, 0, 1, 3, 1, 3333, 1428, 3334);
        dueTold(samples, 1, 0, 3, 1, 3333, 1428, 3334);
        // Rows 0 and 2: a b c, a and b shared; the rests are d, and x.
        dueTold(samples, 0, 2, 3, 2, 6666, 4000, 7500);
        // Rows 0 and 3: a b c, none shared; the rests are d, and z.
        dueTold(samples, 0, 3, 3, 0, 0, 0, 2500);
        samples.set(WordSamples.KEPT, 32);
        dueTold(samples, 0, 1, 6, 2, 3333, 3333, 3334);
        samples.set(WordSamples.KEPT, 1);
        dueTold(samples, 0, 1, 1, 0, 0, 0, 6000);
        int[][] wrong = {{4, 0}, {0, 4}, {-1, 0}, {0, -1}, {Integer.MAX_VALUE, 0}, {0, Integer.MIN_VALUE}};
        for (int[] rows : wrong) {
            due("told of no such row", samples.told(rows[0], rows[1], 0), NO_SUCH);
            due("told of no such row, and a bad what", samples.told(rows[0], rows[1], 5), NO_SUCH);
        }
        due("told(0, 1, 5)", samples.told(0, 1, 5), BAD_VALUE);
        due("told(0, 1, -1)", samples.told(0, 1, -1), BAD_VALUE);
        samples.set(WordSamples.WIDTH, 4);
        // Row 2 has no word now; row 0 has one.
        dueTold(samples, 0, 2, 1, 0, 0, 0, 0);
        dueTold(samples, 2, 3, 0, 0, 0, 0, 0);
    }

    private void dueTold(WordSamples samples, int row, int other, int... wants) {
        for (int what = 0; what < wants.length; what++) {
            due("told(" + row + ", " + other + ", " + what + ")", samples.told(row, other, what), wants[what]);
        }
    }

    private void toldOfOneRow() {
        WordSamples samples = letters(2, "abcde");
        // The common sample is a b; the rest of both is c d e.
        dueTold(samples, 0, 0, 2, 2, 10000, 2500, 10000);
        Checks.add(samples, FULL);
        samples.set(WordSamples.WIDTH, 2);
        samples.set(WordSamples.KEPT, 32);
        // ab .. op and pa
        dueTold(samples, 1, 1, 16, 16, 10000, 10000, 10000);
        dueTold(samples, 0, 1, 16, 4, 2500, 2500, 2500);
    }

    // Promise 12
    private void exact() {
        WordSamples samples = letters(1, "abcd", "cdef", "abx", "zzz");
        dueExact(samples, 0, 1, 6, 2, 3333);
        dueExact(samples, 1, 0, 6, 2, 3333);
        dueExact(samples, 0, 2, 5, 2, 4000);
        dueExact(samples, 0, 3, 5, 0, 0);
        dueExact(samples, 0, 0, 4, 4, 10000);
        dueExact(samples, 3, 3, 1, 1, 10000);
        due("exact(0, 4, 0)", samples.exact(0, 4, 0), NO_SUCH);
        due("exact(4, 0, 0)", samples.exact(4, 0, 0), NO_SUCH);
        due("exact(-1, 0, 0)", samples.exact(-1, 0, 0), NO_SUCH);
        due("exact(0, -1, 9)", samples.exact(0, -1, 9), NO_SUCH);
        due("exact(0, 1, 3)", samples.exact(0, 1, 3), BAD_VALUE);
        due("exact(0, 1, -1)", samples.exact(0, 1, -1), BAD_VALUE);
        samples.set(WordSamples.WIDTH, 4);
        dueExact(samples, 2, 3, 0, 0, 0);
        dueExact(samples, 0, 2, 1, 0, 0);
    }

    private void dueExact(WordSamples samples, int row, int other, int... wants) {
        for (int what = 0; what < wants.length; what++) {
            due("exact(" + row + ", " + other + ", " + what + ")", samples.exact(row, other, what), wants[what]);
        }
    }

    // Promise 13
    private void inside() {
        WordSamples samples = letters(3, "abcd", "cdefgh", "bcy");
        // Rows 0 and 1: common sample a b c, c shared; the rests are d, and d to h.
        dueInside(samples, 0, 1, 5000, 2500, 5000);
        dueInside(samples, 1, 0, 3333, 1666, 3334);
        // Rows 2 and 0: a b c, b and c shared; the rests are y, and d.
        dueInside(samples, 2, 0, 6666, 6666, 10000);
        dueInside(samples, 0, 2, 5000, 5000, 7500);
        dueInside(samples, 2, 2, 10000, 10000, 10000);
        // Rows 2 and 1: b c d, c shared; the rests are y, and e to h.
        dueInside(samples, 2, 1, 3333, 3333, 6667);
        due("inside(0, 3, 0)", samples.inside(0, 3, 0), NO_SUCH);
        due("inside(3, 0, 0)", samples.inside(3, 0, 0), NO_SUCH);
        due("inside(-1, 0, 0)", samples.inside(-1, 0, 0), NO_SUCH);
        due("inside(0, -1, 3)", samples.inside(0, -1, 3), NO_SUCH);
        due("inside(0, 1, 3)", samples.inside(0, 1, 3), BAD_VALUE);
        due("inside(0, 1, -1)", samples.inside(0, 1, -1), BAD_VALUE);
        samples.set(WordSamples.WIDTH, 4);
        dueInside(samples, 2, 1, 0, 0, 0);
        dueInside(samples, 1, 2, 0, 0, 0);
    }

    private void dueInside(WordSamples samples, int row, int other, int... wants) {
        for (int what = 0; what < wants.length; what++) {
            due("inside(" + row + ", " + other + ", " + what + ")", samples.inside(row, other, what), wants[what]);
        }
    }

    // Promise 14
    private void nearest() {
        WordSamples samples = letters(2, "abcdef", "abxyz", "acdef", "abuvw");
        // Row 0, with samples of 2: 10000, 5000, 10000; truly 2 of 9, 5 of 6, 2 of 9.
        due("nearest(0, 0): of two the lowest", samples.nearest(0, 0), 1);
        due("nearest(0, 1)", samples.nearest(0, 1), 2);
        due("nearest(1, 0): not itself", samples.nearest(1, 0), 0);
        due("nearest(1, 1): of 2 of 9 and 2 of 8", samples.nearest(1, 1), 3);
        due("nearest(3, 0)", samples.nearest(3, 0), 0);
        due("nearest(4, 0)", samples.nearest(4, 0), NO_SUCH);
        due("nearest(-1, 0)", samples.nearest(-1, 0), NO_SUCH);
        due("nearest(4, 2)", samples.nearest(4, 2), NO_SUCH);
        due("nearest(0, 2)", samples.nearest(0, 2), BAD_VALUE);
        due("nearest(0, -1)", samples.nearest(0, -1), BAD_VALUE);
        WordSamples one = letters(8, "abc");
        due("nearest(0, 0) of one row", one.nearest(0, 0), NONE);
        due("nearest(0, 1) of one row", one.nearest(0, 1), NONE);
        due("nearest(0, 2) of one row", one.nearest(0, 2), BAD_VALUE);
        Checks.add(one, "xyz");
        due("nearest(0, 0) with nothing in common", one.nearest(0, 0), 1);
        due("nearest(0, 1) with nothing in common", one.nearest(0, 1), 1);
        due("nearest(1, 0) with nothing in common", one.nearest(1, 0), 0);
    }

    // Promise 15
    private void candidates() {
        WordSamples samples = letters(4, "abcd", "abcd", "abce", "wxyz", "abwx");
        // Row 0: bounds 10000 to 10000; 3 of 5 to 3 of 5; 0 to 0; 2 of 6 to 2 of 6.
        due("candidates(0) with one that is the same", samples.candidates(0), 2);
        due("candidates(1)", samples.candidates(1), 1);
        // Row 2 beside 0 and 1: sample abcd, 3 of 5 to 3 of 5; beside 4: sample abce, 2 of 6.
        due("candidates(2)", samples.candidates(2), 3);
        // Row 3: beside 0, 1, 2: 0 to 0; beside 4: sample a b w x, w x shared, nothing but y z left: 2 of 6.
        due("candidates(3)", samples.candidates(3), 16);
        samples.set(WordSamples.KEPT, 1);
        // Row 0 beside 1: a shared, rests of 3: 1 of 7 to 1; beside 2: 1 of 7 to 1; beside 3: 0 to 3 of 5
        // (w to z, and b c d); beside 4: 1 of 7 to 1.
        due("candidates(0) with KEPT 1", samples.candidates(0), 30);
        due("candidates(5)", samples.candidates(5), NO_SUCH);
        due("candidates(-1)", samples.candidates(-1), NO_SUCH);
        WordSamples one = letters(8, "abc");
        due("candidates(0) of one row", one.candidates(0), 0);
        Checks.add(one, "xyz");
        due("candidates(0) with bounds 0 to 0", one.candidates(0), 2);
        WordSamples edge = letters(1, "ab", "ab", "cdefg", "ac");
        // Row 0 beside 1: 1 of 3 to 1; beside 2: nothing shared, rests of 1 and 5: 0 to 1 of 6; beside 3: 1 of 3 to 1.
        due("candidates(0): 1667 is below 3333", edge.candidates(0), 10);
    }

    // Promise 16
    private void worst() {
        WordSamples samples = letters(2, "abcdef", "abxyz", "acdef");
        // 0 1: 10000 and 2222; 0 2: 5000 and 8333; 1 2: 5000 and 1111.
        dueWorst(samples, 0, 1, 7778);
        samples.set(WordSamples.KEPT, 1);
        // 0 1: 10000 and 2222; 0 2: 10000 and 8333; 1 2: 10000 and 1111.
        dueWorst(samples, 1, 2, 8889);
        samples.set(WordSamples.KEPT, 32);
        dueWorst(samples, 0, 1, 0);
        due("worst(3)", samples.worst(3), BAD_VALUE);
        due("worst(-1)", samples.worst(-1), BAD_VALUE);
        WordSamples same = letters(1, "ax", "ay", "az");
        // Each pair: 10000 and 3333.
        dueWorst(same, 0, 1, 6667);
        WordSamples below = letters(1, "abc", "bc", "bc");
        // 0 1 and 0 2: 0 and 6666; 1 2: 10000 and 10000.
        dueWorst(below, 0, 1, 6666);
        below.remove(0);
        dueWorst(below, 0, 1, 0);
        below.remove(0);
        dueWorst(below, NONE, NONE, NONE);
        due("worst(3) of one row", below.worst(3), BAD_VALUE);
        below.remove(0);
        dueWorst(below, NONE, NONE, NONE);
        WordSamples lastPair = letters(1, "ab", "ab", "cde", "cfg");
        // Only 2 3 differ from the truth: 10000 and 2000.
        dueWorst(lastPair, 2, 3, 8000);
    }

    private void dueWorst(WordSamples samples, int... wants) {
        for (int what = 0; what < wants.length; what++) {
            due("worst(" + what + ")", samples.worst(what), wants[what]);
        }
    }

    // Promise 17
    private void bestKept() {
        WordSamples samples = letters(9, "abcd", "abxy");
        // Told: 10000 with 1 and 2, 6666 with 3, 5000 with 4, 4000 with 5, 3333 with 6 and more; truly 3333.
        int[][] wants = {{10000, 1}, {6667, 1}, {6666, 3}, {3333, 3}, {3332, 4}, {1667, 4}, {1666, 5}, {667, 5}, {666, 6}, {0, 6}};
        for (int[] want : wants) {
            due("bestKept(" + want[0] + ")", samples.bestKept(want[0]), want[1]);
        }
        due("bestKept leaves KEPT", samples.count(2), 9);
        due("bestKept(-1)", samples.bestKept(-1), BAD_VALUE);
        due("bestKept(10001)", samples.bestKept(10001), BAD_VALUE);
        due("bestKept(least int)", samples.bestKept(Integer.MIN_VALUE), BAD_VALUE);
        // Told of 0 2: 0 with 1, 5000 with 2, 6666 with 3, 7500 with 4 and more; the truth is 7500.
        Checks.add(samples, "bcd");
        due("bestKept(3333) of three rows", samples.bestKept(3333), 3);
        due("bestKept(10000) of three rows", samples.bestKept(10000), 1);
        WordSamples up = letters(9, "xb", "x");
        // Told 0 with 1, 5000 with 2 and more.
        due("bestKept(4999) where the samples tell too little", up.bestKept(4999), 2);
        due("bestKept(5000) where the samples tell too little", up.bestKept(5000), 1);
        up.remove(0);
        due("bestKept(0) of one row", up.bestKept(0), 1);
        up.remove(0);
        due("bestKept(0) of no row", up.bestKept(0), 1);
    }

    private void bestKeptOfLongRows() {
        WordSamples samples = letters(8, "abcdefghijklmnopqrstuvwxyz", "abcdefghijklmnopqrstuvwxyz.");
        // Truly 26 of 27; told 10000 with less than 27.
        due("bestKept(0) of 27 letters", samples.bestKept(0), 27);
        WordSamples wide = new WordSamples();
        wide.set(WordSamples.WIDTH, 2);
        wide.set(WordSamples.FACTOR, 1);
        wide.set(WordSamples.OFFSET, 0);
        Checks.add(wide, "abacadaeafagahaiajakalamanaoapaqarasatauavawaxayaz");
        Checks.add(wide, "abacadaeafagahaiajakalamanaoapaqarasatauavawaxay");
        // ab to az, and ba to ya: 25 and 24 words; the other row lacks az and ya: 24 and 23. The truth is 47 of 49.
        due("words", wide.ofRow(0, 1), 49);
        due("words", wide.ofRow(1, 1), 47);
        due("exact", wide.exact(0, 1, 2), 9591);
        // Told: 10000 with less than 25 words, 9600 with 25, then more and more, 9687 with 32.
        due("bestKept(408)", wide.bestKept(408), 25);
        due("bestKept(9)", wide.bestKept(9), 25);
        due("bestKept(8)", wide.bestKept(8), NONE);
    }

    // Promise 18
    private void group() {
        WordSamples samples = letters(32, "abcd", "cdef", "xy", "efgh", "yz", "pq");
        // 0 1 and 1 3: 2 of 6; 2 4: 1 of 3; all other pairs: 0. (Rows 0 and 3 have no word in common.)
        int[] wants = {0, 0, 2, 0, 2, 5};
        for (int row = 0; row < wants.length; row++) {
            due("group(" + row + ", 3333)", samples.group(row, 3333), wants[row]);
            due("group(" + row + ", 1)", samples.group(row, 1), wants[row]);
            due("group(" + row + ", 3334)", samples.group(row, 3334), row);
            due("group(" + row + ", 10000)", samples.group(row, 10000), row);
            due("group(" + row + ", 0)", samples.group(row, 0), 0);
        }
        due("group(6, 0)", samples.group(6, 0), NO_SUCH);
        due("group(-1, 0)", samples.group(-1, 0), NO_SUCH);
        due("group(6, -1)", samples.group(6, -1), NO_SUCH);
        due("group(0, -1)", samples.group(0, -1), BAD_VALUE);
        due("group(0, 10001)", samples.group(0, 10001), BAD_VALUE);
        WordSamples chain = letters(32, "ab", "ij", "hi", "gh", "fg", "ef", "de", "cd", "bc", "ja");
        for (int row = 0; row < 10; row++) {
            due("group(" + row + ", 3333) of a chain", chain.group(row, 3333), 0);
        }
        chain.remove(0);
        due("group(7, 3333) of a chain", chain.group(7, 3333), 0);
        chain.change(4, 0, 25);
        chain.change(4, 1, 24);
        due("group(7, 3333) of a broken chain", chain.group(7, 3333), 5);
        due("group(3, 3333) of a broken chain", chain.group(3, 3333), 0);
        WordSamples told = letters(1, "abcd", "axyz");
        due("group(1, 10000) by told shares, not by true ones", told.group(1, 10000), 0);
    }

    // Promise 19
    private void put() {
        WordSamples samples = new WordSamples();
        due("put of one", samples.put('a'), 1);
        due("put of eight", samples.put(Checks.packed("bcdefghi")), 9);
        due("put of !~", samples.put(Checks.packed("!~")), 11);
        samples.wipe();
        samples.put(Checks.packed("xyz."));
        samples.add();
        rowIs("put", samples, 0, "xyz.");
        long[] wrong = {
            0, 32, 127, 'a' << 8, 0x610061, 0x6100000000000000L, 0x6161616161610061L, 0x8000000000000061L, 0x100000000000061L,
            0x80, 0xE161, 0xFF, -1, Long.MIN_VALUE, Long.MAX_VALUE, 0x2061, 0x7F61, 0x6120, 0x617F, 0xE161616161616161L
        };
        for (long characters : wrong) {
            due("put(" + characters + ")", samples.put(characters), BAD_VALUE);
        }
        due("the wrong ones leave the pad", samples.count(6), 0);
        Checks.put(samples, FULL.substring(7));
        due("put beyond 64", samples.put(Checks.packed("abcdefgh")), TOO_MANY);
        due("put beyond 64 leaves the pad", samples.count(6), 57);
        due("put to 64", samples.put(Checks.packed("tuvwxyz")), 64);
        due("put to a full pad", samples.put('a'), TOO_MANY);
        due("a wrong put to a full pad", samples.put(0), BAD_VALUE);
        due("a wrong put to a full pad", samples.put(' '), BAD_VALUE);
        due("add() of the full pad", samples.add(), 1);
        rowIs("put to 64", samples, 1, FULL.substring(7) + "tuvwxyz");
        due("put is no change", samples.count(7), 2);
    }

    // Promise 20
    private void wipe() {
        WordSamples samples = new WordSamples();
        due("wipe() of nothing", samples.wipe(), 0);
        Checks.put(samples, "abc!");
        due("wipe()", samples.wipe(), 4);
        due("wipe(): count(6)", samples.count(6), 0);
        due("wipe() again", samples.wipe(), 0);
        Checks.add(samples, "xy");
        rowIs("wipe()", samples, 0, "xy");
        due("wipe() is no change", samples.count(7), 1);
        Checks.put(samples, FULL);
        due("wipe() of a full pad", samples.wipe(), 64);
    }

    // Promise 21
    private void fault() {
        WordSamples samples = new WordSamples();
        due("fault() of an empty pad", samples.fault(), 0);
        for (String pad : new String[] {"a", "z", ".", "az.", FULL}) {
            Checks.put(samples, pad);
            due("fault() of " + pad, samples.fault(), NONE);
            samples.wipe();
        }
        String[] wrong = {"A", "aZ", "ab{", "`", "abcdefg-", "a.b,", "abcdefgh/i/", FULL.substring(1) + "!"};
        int[] wants = {0, 1, 2, 0, 7, 3, 8, 63};
        for (int each = 0; each < wrong.length; each++) {
            Checks.put(samples, wrong[each]);
            due("fault() of " + wrong[each], samples.fault(), wants[each]);
            due("fault() leaves the pad", samples.wipe(), wrong[each].length());
        }
    }

    // Promise 22
    private void undo() {
        WordSamples samples = new WordSamples();
        for (int value = 1; value <= 8; value++) {
            samples.set(WordSamples.OFFSET, value);
            due("count(7) after change " + value, samples.count(7), Math.min(value, 6));
        }
        for (int value = 7; value >= 2; value--) {
            due("undo() to " + value, samples.undo(), value - 2);
            due("undo(): OFFSET", samples.count(4), value);
        }
        due("undo() of nothing", samples.undo(), NOT_POSSIBLE);
        due("undo() of nothing leaves all", samples.count(4), 2);
        samples.set(WordSamples.OFFSET, 50);
        samples.set(WordSamples.OFFSET, 60);
        samples.undo();
        samples.set(WordSamples.OFFSET, 70);
        due("undo() after an undone one", samples.undo(), 1);
        due("undo() after an undone one: OFFSET", samples.count(4), 50);
        samples.set(WordSamples.OFFSET, 50);
        due("a change to the same is recorded", samples.count(7), 2);
        due("and undone", samples.undo(), 1);
        due("and leaves the one before", samples.undo(), 0);
        due("and its OFFSET", samples.count(4), 2);
    }

    private void undoOfEachChange() {
        WordSamples samples = letters(8, "abc", "de");
        Checks.put(samples, "xy");
        samples.append(0);
        Checks.put(samples, "pad");
        due("words before undo()", samples.ofRow(0, 1), 5);
        samples.undo();
        due("words after undo()", samples.ofRow(0, 1), 3);
        rowIs("undo() of append", samples, 0, "abc");
        due("undo() leaves the pad", samples.count(6), 3);
        samples.change(1, 0, 25);
        samples.undo();
        rowIs("undo() of change", samples, 1, "de");
        samples.remove(0);
        samples.undo();
        rowIs("undo() of remove", samples, 0, "abc");
        rowIs("undo() of remove", samples, 1, "de");
        samples.add();
        samples.undo();
        due("undo() of add: rows", samples.count(0), 2);
        due("undo() of add gives no pad back", samples.count(6), 0);
        samples.set(WordSamples.WIDTH, 2);
        samples.undo();
        due("undo() of set", samples.count(1), 1);
        samples.save(0);
        samples.remove(1);
        samples.restore(0);
        samples.undo();
        due("undo() of restore", samples.count(0), 1);
        samples.undo();
        due("undo() of the remove before", samples.count(0), 2);
        samples.change(0, 0, 7);
        samples.save(0);
        samples.undo();
        samples.restore(0);
        rowIs("undo() leaves the slots", samples, 0, "hbc");
    }

    private void errorsAreNoChanges() {
        WordSamples samples = letters(8, "abc");
        int before = samples.count(7);
        samples.set(0, 9);
        samples.add();
        samples.append(0);
        samples.append(4);
        samples.change(0, 3, 0);
        samples.change(0, 0, 27);
        samples.remove(1);
        samples.restore(0);
        samples.restore(2);
        samples.put('a');
        samples.wipe();
        samples.save(1);
        due("errors, the pad and save are no changes", samples.count(7), before);
        rowIs("errors", samples, 0, "abc");
        samples.undo();
        due("undo() is no change", samples.count(7), before - 1);
    }

    // Promise 23
    private void save() {
        WordSamples samples = letters(8, "abc", "de");
        due("save(2)", samples.save(2), BAD_VALUE);
        due("save(-1)", samples.save(-1), BAD_VALUE);
        due("save(greatest int)", samples.save(Integer.MAX_VALUE), BAD_VALUE);
        due("save(least int)", samples.save(Integer.MIN_VALUE), BAD_VALUE);
        due("nothing is saved so far", samples.restore(0), NOT_POSSIBLE);
        due("save(1)", samples.save(1), 2);
        due("save(1) leaves slot 0", samples.restore(0), NOT_POSSIBLE);
        samples.remove(0);
        due("save(0)", samples.save(0), 1);
        samples.change(0, 0, 0);
        samples.set(WordSamples.WIDTH, 4);
        due("save(0) of an older state: rows", samples.restore(0), 1);
        rowIs("save(0) keeps what was then", samples, 0, "de");
        due("save(0) keeps the settings", samples.count(1), 1);
        due("save(1) keeps its own", samples.restore(1), 2);
        rowIs("save(1)", samples, 0, "abc");
        rowIs("save(1)", samples, 1, "de");
        samples.remove(0);
        samples.remove(0);
        due("save(1) of no rows", samples.save(1), 0);
        due("save(1) overwrites", samples.restore(1), 0);
    }

    // Promise 24
    private void restore() {
        WordSamples samples = letters(8, "abc", "de");
        due("restore(2)", samples.restore(2), BAD_VALUE);
        due("restore(-1)", samples.restore(-1), BAD_VALUE);
        due("restore(1) of nothing", samples.restore(1), NOT_POSSIBLE);
        samples.save(1);
        int before = samples.count(7);
        due("changes so far", before, 6);
        samples.undo();
        samples.undo();
        due("row 0 has gone", samples.count(0), 0);
        Checks.put(samples, "pad");
        due("restore(1)", samples.restore(1), 2);
        due("restore(1) is recorded", samples.count(7), 5);
        due("restore(1) leaves the pad", samples.count(6), 3);
        due("words after restore(1)", samples.ofRow(0, 1), 3);
        samples.change(0, 0, 25);
        due("words before restore(1)", samples.sample(0, 0, 1), 1);
        due("restore(1) again: the slot keeps it", samples.restore(1), 2);
        rowIs("restore(1) again", samples, 0, "abc");
        due("words after restore(1) again", samples.sample(0, 0, 1), 0);
        due("restore(1) of the same", samples.restore(1), 2);
        samples.undo();
        samples.undo();
        rowIs("undo() of restore(1)", samples, 0, "zbc");
    }
}
