/** The sentences of promises 7 to 18 that name a boundary case, one test for each. */
public final class AskingBoundaryTests {
    private static final int NO_SUCH = -1, BAD_VALUE = -2, NONE = -6;
    private static final String FULL = Checks.FULL;
    /** With WIDTH 2: ab to aq and ba to pa, 31 words in all, of which pa is the greatest one. */
    private static final String THIRTY_ONE = "abacadaeafagahaiajakalamanaoapaq";

    private final Checks checks = new Checks();

    public static void main(String[] args) {
        AskingBoundaryTests tests = new AskingBoundaryTests();
        tests.noSuchRows();
        tests.whatOutOfRange();
        tests.ofRows();
        tests.signs();
        tests.samples();
        tests.counts();
        tests.sameRowTwice();
        tests.insides();
        tests.nearests();
        tests.candidates();
        tests.worsts();
        tests.bestKepts();
        tests.groups();
        tests.nothingChanges();
        tests.checks.end("AskingBoundaryTests");
    }

    private void due(String call, long got, long want) {
        checks.due(call, got, want);
    }

    // ---- promises 7 to 18: wrong rows and numbers

    private void noSuchRows() {
        checks.about("7 to 9, 11 to 15, 18: NO_SUCH if there is no such row");
        WordSamples samples = Checks.letters(8, "abc", "bcd", "cde");
        samples.remove(1);
        for (int row : new int[] {Integer.MIN_VALUE, -1, 2, 3, 9, 10, 32, 64, Integer.MAX_VALUE}) {
            due("ofRow(" + row + ", 0)", samples.ofRow(row, 0), NO_SUCH);
            due("sign(" + row + ", 0)", samples.sign(row, 0), NO_SUCH);
            due("sample(" + row + ", 0, 0)", samples.sample(row, 0, 0), NO_SUCH);
            due("told(" + row + ", 0, 0)", samples.told(row, 0, 0), NO_SUCH);
            due("told(1, " + row + ", 0)", samples.told(1, row, 0), NO_SUCH);
            due("told(" + row + ", " + row + ", 0)", samples.told(row, row, 0), NO_SUCH);
            due("exact(" + row + ", 0, 0)", samples.exact(row, 0, 0), NO_SUCH);
            due("exact(1, " + row + ", 0)", samples.exact(1, row, 0), NO_SUCH);
            due("inside(" + row + ", 0, 0)", samples.inside(row, 0, 0), NO_SUCH);
            due("inside(1, " + row + ", 0)", samples.inside(1, row, 0), NO_SUCH);
            due("nearest(" + row + ", 0)", samples.nearest(row, 0), NO_SUCH);
            due("nearest(" + row + ", 1)", samples.nearest(row, 1), NO_SUCH);
            due("candidates(" + row + ")", samples.candidates(row), NO_SUCH);
            due("group(" + row + ", 0)", samples.group(row, 0), NO_SUCH);
        }
        due("ofRow(1, 0) of the last row", samples.ofRow(1, 0), 3);
        due("exact(1, 1, 0) of the last row", samples.exact(1, 1, 0), 3);
    }

    private void whatOutOfRange() {
        checks.about("7, 9 to 14, 16: BAD_VALUE if what is out of range");
        WordSamples samples = Checks.letters(8, "abc", "bcd");
        int[] far = {Integer.MIN_VALUE, -2, -1, 8, 9, 256, Integer.MAX_VALUE};
        for (int what : far) {
            due("ofRow(0, " + what + ")", samples.ofRow(0, what), BAD_VALUE);
            due("sample(0, 0, " + what + ")", samples.sample(0, 0, what), BAD_VALUE);
            due("count(" + what + ")", samples.count(what), BAD_VALUE);
            due("told(0, 1, " + what + ")", samples.told(0, 1, what), BAD_VALUE);
            due("exact(0, 1, " + what + ")", samples.exact(0, 1, what), BAD_VALUE);
            due("inside(0, 1, " + what + ")", samples.inside(0, 1, what), BAD_VALUE);
            due("nearest(0, " + what + ")", samples.nearest(0, what), BAD_VALUE);
            due("worst(" + what + ")", samples.worst(what), BAD_VALUE);
        }
        due("ofRow(0, 4)", samples.ofRow(0, 4), BAD_VALUE);
        due("ofRow(0, 3)", samples.ofRow(0, 3), 2);
        due("sample(0, 0, 3)", samples.sample(0, 0, 3), BAD_VALUE);
        due("sample(0, 0, 2)", samples.sample(0, 0, 2), 1);
        due("told(0, 1, 5)", samples.told(0, 1, 5), BAD_VALUE);
        due("told(0, 1, 4)", samples.told(0, 1, 4), 5000);
        due("exact(0, 1, 3)", samples.exact(0, 1, 3), BAD_VALUE);
        due("exact(0, 1, 2)", samples.exact(0, 1, 2), 5000);
        due("inside(0, 1, 3)", samples.inside(0, 1, 3), BAD_VALUE);
        due("inside(0, 1, 2)", samples.inside(0, 1, 2), 6667);
        due("nearest(0, 2)", samples.nearest(0, 2), BAD_VALUE);
        due("nearest(0, 1)", samples.nearest(0, 1), 1);
        due("worst(3)", samples.worst(3), BAD_VALUE);
        due("worst(2)", samples.worst(2), 0);
        due("count(8)", samples.count(8), BAD_VALUE);
        due("count(7)", samples.count(7), 6);
    }

    // ---- promise 7

    private void ofRows() {
        checks.about("7: 3 the greatest value of its sample (NONE if it has no words)");
        WordSamples samples = Checks.words(2, 2, "a", "aa", "aaabac");
        int[][] wants = {{1, 0, 0, NONE}, {2, 1, 1, 0}, {6, 4, 2, 1}};
        for (int row = 0; row < 3; row++) {
            for (int what = 0; what < 4; what++) {
                due("ofRow(" + row + ", " + what + ")", samples.ofRow(row, what), wants[row][what]);
            }
        }
        Checks.put(samples, "b");
        samples.append(0);
        due("ofRow(0, 3) with a word", samples.ofRow(0, 3), 1);
        samples.undo();
        due("ofRow(0, 3) without words again", samples.ofRow(0, 3), NONE);
        samples.set(WordSamples.WIDTH, 1);
        due("ofRow(0, 3) with WIDTH 1: the value is 0", samples.ofRow(0, 3), 0);
        due("ofRow of 64 signs", samples.ofRow(Checks.add(samples, FULL), 0), 64);
    }

    // ---- promise 8

    private void signs() {
        checks.about("8: Returns 0 to 26; NO_SUCH if there is no such row or place");
        WordSamples samples = Checks.letters(8, "az.", FULL, "q");
        checks.rowIs("sign", samples, 0, "az.");
        checks.rowIs("sign", samples, 1, FULL);
        checks.rowIs("sign", samples, 2, "q");
        for (int place : new int[] {Integer.MIN_VALUE, -64, -1, 3, 63, 64, 128, Integer.MAX_VALUE}) {
            due("sign(0, " + place + ")", samples.sign(0, place), NO_SUCH);
        }
        due("sign(1, 64)", samples.sign(1, 64), NO_SUCH);
        due("sign(3, -64)", samples.sign(3, -64), NO_SUCH);
        samples.remove(0);
        due("sign(0, 63) of the row that moved up", samples.sign(0, 63), 15);
        due("sign(1, 1) of the row behind it", samples.sign(1, 1), NO_SUCH);
    }

    // ---- promise 9

    private void samples() {
        placesOfTheSample();
        leastValueFirst();
        howOften();
    }

    private void placesOfTheSample() {
        checks.about("9: NO_SUCH if there is no such row or place");
        WordSamples samples = Checks.letters(2, "abc", "z");
        int[] refused = {Integer.MIN_VALUE, -1, 2, 3, 63, 64, Integer.MAX_VALUE};
        for (int place : refused) {
            due("sample(0, " + place + ", 0)", samples.sample(0, place, 0), NO_SUCH);
            due("sample(0, " + place + ", 3)", samples.sample(0, place, 3), NO_SUCH);
        }
        due("sample(0, 1, 0)", samples.sample(0, 1, 0), 1);
        due("sample(1, 1, 0) of one word", samples.sample(1, 1, 0), NO_SUCH);
        samples.set(WordSamples.KEPT, 3);
        due("sample(0, 2, 0) with KEPT 3", samples.sample(0, 2, 0), 2);
        samples.set(WordSamples.KEPT, 4);
        due("sample(0, 3, 0) with KEPT 4", samples.sample(0, 3, 0), NO_SUCH);
        samples.set(WordSamples.WIDTH, 4);
        due("sample(0, 0, 0) of no words", samples.sample(0, 0, 0), NO_SUCH);
        samples.set(WordSamples.WIDTH, 3);
        due("sample(0, 0, 0) of a row of WIDTH signs", samples.sample(0, 0, 0), 29);
    }

    private void leastValueFirst() {
        checks.about("9: in the order of the values; place: 0 for the one with the least value");
        WordSamples samples = Checks.letters(32, "zyxwvutsrqponmlkjihgfedcba.");
        for (int place = 0; place < 27; place++) {
            due("sample(0, " + place + ", 0)", samples.sample(0, place, 0), place);
            due("sample(0, " + place + ", 1)", samples.sample(0, place, 1), place);
        }
        samples.set(WordSamples.FACTOR, 1000002);
        due("the least one with FACTOR 1000002", samples.sample(0, 0, 1), 0);
        for (int place = 1; place < 27; place++) {
            due("sample(0, " + place + ", 1) with FACTOR 1000002", samples.sample(0, place, 1), 27 - place);
        }
    }

    private void howOften() {
        checks.about("9: 2 how often the word stands in the row");
        WordSamples samples = Checks.words(2, 1, "aaaa", "abababa", "ab");
        due("aa in aaaa: one over the other", samples.sample(0, 0, 2), 3);
        due("ab in abababa", samples.sample(1, 0, 2), 3);
        due("ab in ab", samples.sample(2, 0, 2), 1);
        samples.change(1, 6, 25);
        due("ab in abababz", samples.sample(1, 0, 2), 3);
        samples.change(1, 5, 25);
        due("ab in ababazz", samples.sample(1, 0, 2), 2);
        for (String text : new String[] {"cbbaaa", "aaabbc", "bcabaa", "abcaba"}) {
            WordSamples each = Checks.letters(3, text);
            for (int place = 0; place < 3; place++) {
                due("sample(0, " + place + ", 2) of " + text, each.sample(0, place, 2), 3 - place);
            }
        }
    }

    // ---- promise 10

    private void counts() {
        checks.about("10: 5 the different words of all rows");
        WordSamples samples = Checks.letters(1, "abc", "cba", "bcd");
        due("count(5): a b c d, though KEPT is 1", samples.count(5), 4);
        samples.set(WordSamples.WIDTH, 3);
        due("count(5) with WIDTH 3", samples.count(5), 3);
        samples.set(WordSamples.WIDTH, 4);
        due("count(5) of no words", samples.count(5), 0);
        Checks.add(samples, "aaaaa");
        due("count(5) of aaaaa with WIDTH 4", samples.count(5), 1);

        checks.about("10: 0 rows, 1 to 4 the settings, 6 the length of the pad, 7 how many changes can be undone");
        samples.set(WordSamples.OFFSET, 0);
        Checks.put(samples, FULL);
        int[] wants = {4, 4, 1, 1, 0, 1, 64, 6};
        for (int what = 0; what < 8; what++) {
            due("count(" + what + ")", samples.count(what), wants[what]);
        }
        due("put to a full pad", samples.put('a'), -4);
        due("count(6)", samples.count(6), 64);
    }

    // ---- promises 11 to 13

    private void sameRowTwice() {
        checks.about("11, 12: two rows (which may be the same one)");
        WordSamples samples = Checks.letters(2, "abcde", "a", "zz");
        int[][] told = {{2, 2, 10000, 2500, 10000}, {1, 1, 10000, 10000, 10000}, {1, 1, 10000, 10000, 10000}};
        int[][] exact = {{5, 5, 10000}, {1, 1, 10000}, {1, 1, 10000}};
        for (int row = 0; row < 3; row++) {
            for (int what = 0; what < 5; what++) {
                due("told(" + row + ", " + row + ", " + what + ")", samples.told(row, row, what), told[row][what]);
            }
            for (int what = 0; what < 3; what++) {
                due("exact(" + row + ", " + row + ", " + what + ")", samples.exact(row, row, what), exact[row][what]);
            }
        }
        due("the same words in other rows", samples.told(Checks.add(samples, "edcba"), 0, 3), 2500);
    }

    private void dueInside(WordSamples samples, int row, int other, int... wants) {
        for (int what = 0; what < 3; what++) {
            due("inside(" + row + ", " + other + ", " + what + ")", samples.inside(row, other, what), wants[what]);
        }
    }

    private void insides() {
        checks.about("13: the share of the words of a row that are in another one: 0 the true one, 1 at least, 2 at most (.. rounded up)");
        WordSamples samples = Checks.letters(2, "abcdef", "abc", "xyz");
        // Common sample a b; the rests are c d e f, and c.
        dueInside(samples, 0, 1, 5000, 3333, 5000);
        dueInside(samples, 1, 0, 10000, 6666, 10000);
        // The rests are c d e f, and x y z: three more at most.
        dueInside(samples, 0, 2, 0, 0, 5000);
        dueInside(samples, 2, 0, 0, 0, 10000);
        // The rests are c, and x y z: one more at most.
        dueInside(samples, 2, 1, 0, 0, 3334);
        // Itself: the rest is c d e f.
        dueInside(samples, 0, 0, 10000, 3333, 10000);
        samples.set(WordSamples.KEPT, 32);
        dueInside(samples, 0, 1, 5000, 5000, 5000);
        dueInside(samples, 2, 1, 0, 0, 0);
        Checks.add(samples, "abz");
        dueInside(samples, 3, 1, 6666, 6666, 6667);
    }

    // ---- promise 14

    private void nearests() {
        notItself();
        ofSeveralTheLowest();
        noOtherRow();
        neitherZeroNorOne();
        byToldOrTrueShares();
    }

    private void notItself() {
        checks.about("14: Finds the other row that is nearest to a row");
        WordSamples samples = Checks.letters(8, "abc", "xyz");
        for (int what = 0; what < 2; what++) {
            due("nearest(0, " + what + ") with nothing in common", samples.nearest(0, what), 1);
            due("nearest(1, " + what + ") with nothing in common", samples.nearest(1, what), 0);
        }
        Checks.add(samples, "xy");
        for (int what = 0; what < 2; what++) {
            due("nearest(0, " + what + ")", samples.nearest(0, what), 1);
            due("nearest(1, " + what + ")", samples.nearest(1, what), 2);
            due("nearest(2, " + what + ")", samples.nearest(2, what), 1);
        }
    }

    private void ofSeveralTheLowest() {
        checks.about("14: the one with the greatest share, of several the lowest one");
        WordSamples samples = Checks.letters(8, "ab", "ab", "ab", "ab", "ab", "ab", "ab", "ab", "ab", "ab");
        for (int row = 0; row < 10; row++) {
            due("nearest(" + row + ", 0) of ten", samples.nearest(row, 0), row == 0 ? 1 : 0);
            due("nearest(" + row + ", 1) of ten", samples.nearest(row, 1), row == 0 ? 1 : 0);
        }
        samples.change(9, 0, 25);
        samples.change(4, 0, 24);
        samples.change(6, 0, 25);
        // Row 9 is zb now, as row 6 is; row 4 is yb.
        due("nearest(9, 0)", samples.nearest(9, 0), 6);
        due("nearest(9, 1)", samples.nearest(9, 1), 6);
        due("nearest(6, 1)", samples.nearest(6, 1), 9);
        due("nearest(4, 0)", samples.nearest(4, 0), 0);
    }

    private void noOtherRow() {
        checks.about("14: NONE if there is no other row");
        WordSamples samples = Checks.letters(8, "abc");
        due("nearest(0, 0)", samples.nearest(0, 0), NONE);
        due("nearest(0, 1)", samples.nearest(0, 1), NONE);
        Checks.add(samples, "z");
        due("nearest(0, 0) of two rows", samples.nearest(0, 0), 1);
        samples.remove(0);
        due("nearest(0, 0) of one row again", samples.nearest(0, 0), NONE);
        due("nearest(1, 0) of one row", samples.nearest(1, 0), NO_SUCH);
    }

    private void neitherZeroNorOne() {
        checks.about("14: BAD_VALUE if what is neither 0 nor 1");
        WordSamples samples = Checks.letters(8, "abc");
        for (int rows = 1; rows <= 2; rows++) {
            for (int what : new int[] {Integer.MIN_VALUE, -1, 2, 3, Integer.MAX_VALUE}) {
                due("nearest(0, " + what + ") of " + rows + " rows", samples.nearest(0, what), BAD_VALUE);
            }
            Checks.add(samples, "abd");
        }
    }

    private void byToldOrTrueShares() {
        checks.about("14: 0 by told shares, 1 by true shares");
        WordSamples samples = Checks.letters(1, "abcd", "bcd", "axyz");
        due("nearest(0, 0): a alone is seen", samples.nearest(0, 0), 2);
        due("nearest(0, 1): 3 of 4 before 1 of 7", samples.nearest(0, 1), 1);
        samples.set(WordSamples.KEPT, 4);
        due("nearest(0, 0) with KEPT 4", samples.nearest(0, 0), 1);
    }

    // ---- promise 15

    private void candidates() {
        atLeastTheGreatestLowerBound();
        setsOfRows();
        boundsAlone();
    }

    private void atLeastTheGreatestLowerBound() {
        checks.about("15: those whose upper bound is at least the greatest lower bound of all other rows");
        WordSamples samples = Checks.letters(32, "ab", "bc", "bd");
        due("3333 to 3334 both", samples.candidates(0), 0b110);
        Checks.add(samples, "abcd");
        due("5000 to 5000 beside them", samples.candidates(0), 0b1000);
        Checks.add(samples, "a");
        due("5000 to 5000 twice", samples.candidates(0), 0b11000);
        Checks.add(samples, "abz");
        due("6666 to 6667 beside them", samples.candidates(0), 0b100000);
        WordSamples low = Checks.letters(1, "abc", "abc", "xyz", "adefghijklmn");
        // 1 of 5 to 1; nothing to 2 of 4; 1 of 14 to 3 of 12.
        due("upper bounds of 10000, 5000 and 2500 to 2000", low.candidates(0), 0b1110);
        Checks.put(low, "opq");
        low.append(3);
        // 1 of 17 to 3 of 15, which is 2000.
        due("an upper bound of 2000 to 2000", low.candidates(0), 0b1110);
        Checks.put(low, "r");
        low.append(3);
        // 3 of 16 is 1875.
        due("an upper bound of 1875 to 2000", low.candidates(0), 0b110);
        // The greatest lower bound is the one of the first row, of a middle one, and of the last one.
        WordSamples places = Checks.letters(32, "ab", "ab", "cd", "ac", "cd", "ac");
        int[] wants = {0b10, 0b1, 0b10000, 0b100000, 0b100, 0b1000};
        for (int row = 0; row < 6; row++) {
            due("candidates(" + row + ") with one that is the same", places.candidates(row), wants[row]);
        }
    }

    private void setsOfRows() {
        checks.about("15: Returns the set, as a bit mask");
        WordSamples samples = Checks.letters(8, "ab");
        due("candidates(0) of one row", samples.candidates(0), 0);
        for (int row = 1; row < 10; row++) {
            Checks.add(samples, "ab");
        }
        for (int row = 0; row < 10; row++) {
            due("candidates(" + row + ") of ten", samples.candidates(row), 1023 - (1 << row));
        }
        samples.change(9, 0, 25);
        due("candidates(0) without the last one", samples.candidates(0), 0b111111110);
        due("candidates(9): all are as far", samples.candidates(9), 0b111111111);
    }

    private void boundsAlone() {
        checks.about("15: Finds the other rows that could be the nearest one truly, by the bounds alone");
        WordSamples samples = Checks.letters(1, "abcd", "abcd", "axyz", "xyzw");
        // All of them could share b c d.
        due("candidates(0) with KEPT 1", samples.candidates(0), 0b1110);
        samples.set(WordSamples.KEPT, 32);
        due("candidates(0) with KEPT 32", samples.candidates(0), 0b10);
        // Bounds of nothing: 0 to 0.
        samples.change(2, 0, 26);
        samples.remove(1);
        due("candidates(0) with nothing in common", samples.candidates(0), 0b110);
    }

    // ---- promise 16

    private void dueWorst(WordSamples samples, int... wants) {
        for (int what = 0; what < 3; what++) {
            due("worst(" + what + ")", samples.worst(what), wants[what]);
        }
    }

    private void worsts() {
        fewerThanTwoRows();
        lowestPair();
        fartherToBothSides();
        lastPairOfTen();
    }

    private void fewerThanTwoRows() {
        checks.about("16: NONE if there are fewer than 2 rows");
        WordSamples samples = new WordSamples();
        samples.set(WordSamples.WIDTH, 1);
        dueWorst(samples, NONE, NONE, NONE);
        Checks.add(samples, "ab");
        dueWorst(samples, NONE, NONE, NONE);
        Checks.add(samples, "z");
        dueWorst(samples, 0, 1, 0);
        samples.remove(0);
        dueWorst(samples, NONE, NONE, NONE);
        due("worst(3) of one row", samples.worst(3), BAD_VALUE);
        due("worst(-1) of one row", samples.worst(-1), BAD_VALUE);
    }

    private void lowestPair() {
        checks.about("16: of several the one with the lowest row, of these with the lowest other row");
        dueWorst(Checks.letters(8, "ab", "cd", "ef", "gh"), 0, 1, 0);
        // 0 2, 0 3, 1 2 and 1 3: 10000, truly 1 of 4.
        dueWorst(Checks.letters(1, "ab", "ab", "acd", "acd"), 0, 2, 7500);
        // 0 3 and 1 2: 10000, truly 1 of 4; all others have nothing in common.
        dueWorst(Checks.letters(1, "ab", "xy", "xzw", "acd"), 0, 3, 7500);
        // 1 3 and 2 3: 10000, truly 1 of 4; 0 has nothing in common with them.
        dueWorst(Checks.letters(1, "z", "ab", "ab", "acd"), 1, 3, 7500);
    }

    private void fartherToBothSides() {
        checks.about("16: for which the told share is farthest from the true one; 2 how far");
        // Told nothing, truly 3 of 4; a told share that is too great is 5000 from the true one.
        dueWorst(Checks.letters(1, "abcd", "bcd", "xyz", "x.yz"), 0, 1, 7500);
        WordSamples most = Checks.words(2, 1, "ab" + THIRTY_ONE.substring(2), "abzz.z.yzyxzx");
        due("exact(0, 1, 1)", most.exact(0, 1, 1), 1);
        due("told(0, 1, 2)", most.told(0, 1, 2), 10000);
        dueWorst(most, 0, 1, 10000 - most.exact(0, 1, 2));
    }

    private void lastPairOfTen() {
        checks.about("16: Finds the pair of different rows: also the last one");
        WordSamples samples = Checks.letters(1, "a", "b", "c", "d", "e", "f", "g", "h", "xy", "xz");
        dueWorst(samples, 8, 9, 6667);
        samples.change(0, 0, 25);
        // z and xz: told nothing, truly 1 of 2.
        dueWorst(samples, 8, 9, 6667);
        samples.remove(8);
        dueWorst(samples, 0, 8, 5000);
    }

    // ---- promise 17

    private void bestKepts() {
        limitsOfBestKept();
        leastThatIsNearEnough();
        greatestKept();
        noKeptIsEnough();
        bestKeptOfFewRows();
        allPairsAtOnce();
    }

    private void limitsOfBestKept() {
        checks.about("17: limit: 0 to 10000; BAD_VALUE if limit is out of range");
        WordSamples samples = Checks.letters(8, "abc", "bc");
        for (int limit : new int[] {Integer.MIN_VALUE, -1, 10001, 10002, Integer.MAX_VALUE}) {
            due("bestKept(" + limit + ")", samples.bestKept(limit), BAD_VALUE);
            due("bestKept(" + limit + ") of no row", new WordSamples().bestKept(limit), BAD_VALUE);
        }
        due("bestKept(0)", samples.bestKept(0), 3);
        due("bestKept(10000)", samples.bestKept(10000), 1);
        WordSamples same = Checks.letters(8, "abc", "abc");
        due("bestKept(0) of rows that are the same", same.bestKept(0), 1);
    }

    private void leastThatIsNearEnough() {
        checks.about("17: Finds the least KEPT with which the told share of no pair is farther from the true one than a limit");
        WordSamples samples = Checks.letters(9, "abcdefghij", "acdefghij");
        // Truly 9000; told 10000 with 1, 5000 with 2, 6666, 7500, 8000 with 5, 8333, 8571, 8750, 8888 with 9, and 9000.
        int[][] wants = {{10000, 1}, {1000, 1}, {999, 6}, {667, 6}, {666, 7}, {112, 9}, {111, 10}, {0, 10}};
        for (int[] want : wants) {
            due("bestKept(" + want[0] + ")", samples.bestKept(want[0]), want[1]);
        }
        due("KEPT is left", samples.count(2), 9);
    }

    private void greatestKept() {
        checks.about("17: the least KEPT, 1 to 32");
        WordSamples samples = Checks.words(2, 1, THIRTY_ONE, THIRTY_ONE + "z");
        // qz is the last one of 32: told 10000 with less than 32, and truly 31 of 32.
        due("exact(0, 1, 2)", samples.exact(0, 1, 2), 9687);
        due("bestKept(0)", samples.bestKept(0), 32);
        due("bestKept(312)", samples.bestKept(312), 32);
        due("bestKept(313)", samples.bestKept(313), 1);
        due("KEPT is left", samples.count(2), 1);
    }

    private void noKeptIsEnough() {
        checks.about("17: NONE if there is none");
        WordSamples samples = Checks.words(2, 1, THIRTY_ONE, THIRTY_ONE + "zz");
        // qz and zz are the last ones of 33: told 10000, with 32 31 of 32, and truly 31 of 33.
        due("exact(0, 1, 2)", samples.exact(0, 1, 2), 9393);
        due("bestKept(607)", samples.bestKept(607), 1);
        due("bestKept(606)", samples.bestKept(606), 32);
        due("bestKept(294)", samples.bestKept(294), 32);
        due("bestKept(293)", samples.bestKept(293), NONE);
        due("bestKept(0)", samples.bestKept(0), NONE);
        due("bestKept(-1)", samples.bestKept(-1), BAD_VALUE);
        samples.remove(0);
        due("bestKept(0) of one row", samples.bestKept(0), 1);
    }

    private void bestKeptOfFewRows() {
        checks.about("17: of no pair of different rows: where there is no pair, the least one is 1");
        WordSamples samples = new WordSamples();
        due("bestKept(0) of no row", samples.bestKept(0), 1);
        Checks.add(samples, "abcdef");
        due("bestKept(0) of one row", samples.bestKept(0), 1);
        Checks.add(samples, "a");
        due("bestKept(0) of a row without words", samples.bestKept(0), 1);
    }

    private void allPairsAtOnce() {
        checks.about("17: with which the told share of no pair of different rows is farther");
        // 0 1 need 3 words, 2 3 need 4, and the other pairs have nothing in common.
        WordSamples samples = Checks.letters(1, "abc", "ab", "wxyz", "wxy");
        due("bestKept(0)", samples.bestKept(0), 4);
        samples.remove(3);
        due("bestKept(0) without the last row", samples.bestKept(0), 3);
        samples.remove(1);
        due("bestKept(0) of rows that have nothing in common", samples.bestKept(0), 1);
    }

    // ---- promise 18

    private void groups() {
        limitsOfGroups();
        atLeastALimit();
        perhapsItself();
        byRowsBetween();
        limitOfNothing();
        fullGroups();
    }

    private void limitsOfGroups() {
        checks.about("18: limit: 0 to 10000; BAD_VALUE if limit is out of range");
        WordSamples samples = Checks.letters(8, "ab", "ab");
        for (int limit : new int[] {Integer.MIN_VALUE, -1, 10001, 10002, Integer.MAX_VALUE}) {
            due("group(0, " + limit + ")", samples.group(0, limit), BAD_VALUE);
            due("group(2, " + limit + ")", samples.group(2, limit), NO_SUCH);
        }
        due("group(1, 0)", samples.group(1, 0), 0);
        due("group(1, 10000)", samples.group(1, 10000), 0);
        samples.change(0, 0, 25);
        due("group(1, 10000) of rows that are different", samples.group(1, 10000), 1);
    }

    private void atLeastALimit() {
        checks.about("18: a told share with the next one that is at least a limit");
        WordSamples samples = Checks.letters(8, "abc", "ab");
        due("group(1, 6665)", samples.group(1, 6665), 0);
        due("group(1, 6666)", samples.group(1, 6666), 0);
        due("group(1, 6667)", samples.group(1, 6667), 1);
        samples.set(WordSamples.KEPT, 2);
        due("group(1, 10000) with KEPT 2", samples.group(1, 10000), 0);
    }

    private void perhapsItself() {
        checks.about("18: Returns the lowest row of its group (perhaps itself)");
        WordSamples samples = Checks.letters(8, "ab", "cd", "cd", "xy", "ab");
        int[] wants = {0, 1, 1, 3, 0};
        for (int row = 0; row < 5; row++) {
            due("group(" + row + ", 10000)", samples.group(row, 10000), wants[row]);
            due("group(" + row + ", 1)", samples.group(row, 1), wants[row]);
        }
        WordSamples one = Checks.letters(8, "ab");
        due("group(0, 10000) of one row", one.group(0, 10000), 0);
    }

    private void byRowsBetween() {
        checks.about("18: if one can go from one to the other one by rows");
        // 0 2 and 2 1, but not 0 1.
        WordSamples samples = Checks.letters(8, "ab", "cd", "bc");
        due("group(1, 3333)", samples.group(1, 3333), 0);
        due("group(1, 3334)", samples.group(1, 3334), 1);
        samples.remove(2);
        due("group(1, 1) without the row between", samples.group(1, 1), 1);
        // 9 8 7 6 5 4 3 2 1 0, a chain in the order of the rows, and one that goes up and down.
        WordSamples chain = Checks.letters(8, "ab", "bc", "cd", "de", "ef", "fg", "gh", "hi", "ij", "jk");
        due("group(9, 3333) of a chain", chain.group(9, 3333), 0);
        WordSamples turns = Checks.letters(8, "ab", "jk", "bc", "ij", "cd", "hi", "de", "gh", "ef", "fg");
        due("group(1, 3333) of a chain that turns", turns.group(1, 3333), 0);
        turns.change(9, 0, 25);
        // zg has its place in the chain no longer beside ef.
        due("group(1, 3333) of a broken chain", turns.group(1, 3333), 1);
        due("group(8, 3333) of a broken chain", turns.group(8, 3333), 0);
        due("group(9, 3333) of a broken chain", turns.group(9, 3333), 1);
    }

    private void limitOfNothing() {
        checks.about("18: at least a limit: all rows are in one group with a limit of 0");
        WordSamples samples = Checks.words(4, 8, "a", "abcd", "wxyz", "b");
        for (int row = 0; row < 4; row++) {
            due("group(" + row + ", 0)", samples.group(row, 0), 0);
            due("group(" + row + ", 1)", samples.group(row, 1), row);
        }
    }

    private void fullGroups() {
        checks.about("18: Returns the lowest row of the group of a row: of ten rows");
        WordSamples samples = Checks.letters(8, "ab", "cd", "ab", "cd", "ab", "cd", "ab", "cd", "ab", "cd");
        for (int row = 0; row < 10; row++) {
            due("group(" + row + ", 10000)", samples.group(row, 10000), row % 2);
        }
    }

    // ---- nothing changes

    private void nothingChanges() {
        checks.about("two rows; all rows: nothing changes");
        WordSamples samples = Checks.letters(3, "abcd", "cdef", "abx", "zzz");
        Checks.put(samples, "pq#");
        String before = States.seen(samples);
        for (int row = 0; row < 4; row++) {
            for (int what = 0; what < 5; what++) {
                samples.ofRow(row, what);
                samples.told(row, 3 - row, what);
                samples.exact(row, 3 - row, what);
                samples.inside(row, 3 - row, what);
                samples.nearest(row, what);
                samples.worst(what);
                samples.bestKept(what * 2500);
                samples.group(row, what * 2500);
            }
            samples.candidates(row);
        }
        checks.holds("all is as before", States.seen(samples).equals(before));
        due("fault()", samples.fault(), 2);
    }
}
