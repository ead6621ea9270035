import java.util.function.ToIntFunction;

/** The sentences of 'Terms' that name a boundary case, one test for each. */
public final class TermsBoundaryTests {
    private static final int NO_SUCH = -1, BAD_VALUE = -2, BAD_TEXT = -3, TOO_MANY = -4, NOT_POSSIBLE = -5, NONE = -6;
    private static final int PRIME = 1000003;
    private static final String FULL = Checks.FULL;
    /** With WIDTH 2: ab to az and ba to ya, 49 words in all. */
    private static final String BRANCHES = "abacadaeafagahaiajakalamanaoapaqarasatauavawaxayaz";

    private final Checks checks = new Checks();

    public static void main(String[] args) {
        TermsBoundaryTests tests = new TermsBoundaryTests();
        tests.lastCall();
        tests.conventions();
        tests.settings();
        tests.rowsAndWords();
        tests.samples();
        tests.sharesAndBounds();
        tests.checks.end("TermsBoundaryTests");
    }

    private void due(String call, long got, long want) {
        checks.due(call, got, want);
    }

    private void lastCall() {
        checks.about("An object is used for at most 512 calls after it has been made");
        WordSamples samples = new WordSamples();
        for (int call = 1; call <= 505; call++) {
            samples.set(WordSamples.OFFSET, call);
        }
        due("call 506", samples.count(7), 6);
        due("call 507", samples.put(0x616263L), 3);
        due("call 508", samples.add(), 0);
        due("call 509", samples.save(1), 1);
        due("call 510", samples.undo(), 5);
        due("call 511", samples.restore(1), 1);
        due("call 512", samples.count(4), 505);
    }

    // ---- conventions

    private void conventions() {
        errorsInTheirOrder();
        errorsOfRowsBeforeThoseOfValues();
        errorsChangeNothing();
        refusedUndoChangesNothing();
        noneOnlyIfNoError();
        numberedFromZero();
        roundedDown();
        roundedUp();
        shareOfNothing();
    }

    private static WordSamples tenRows() {
        return Checks.letters(8, "ab", "bc", "cd", "de", "ef", "fg", "gh", "hi", "ij", "jk");
    }

    private void errorsInTheirOrder() {
        checks.about("it names its errors in the order in which they are checked, and the first one that applies is returned");
        WordSamples ten = tenRows();
        due("add() of an empty pad to 10 rows", ten.add(), BAD_TEXT);
        due("append(10) of an empty pad", ten.append(10), NO_SUCH);
        Checks.put(ten, "#");
        due("add() of a bad pad to 10 rows", ten.add(), BAD_TEXT);
        due("append(10) of a bad pad", ten.append(10), NO_SUCH);
        due("append(-1) of a bad pad", ten.append(-1), NO_SUCH);
        Checks.put(ten, FULL.substring(1));
        due("append(10) of a bad pad that is too long", ten.append(10), NO_SUCH);
        due("append(0) of a bad pad that is too long", ten.append(0), BAD_TEXT);
        due("put(0) to a full pad", ten.put(0), BAD_VALUE);
        due("put(' ') to a full pad", ten.put(' '), BAD_VALUE);
        ten.wipe();
        Checks.put(ten, FULL);
        due("append(10) of a pad that is too long", ten.append(10), NO_SUCH);
        due("restore(2)", ten.restore(2), BAD_VALUE);
        due("restore(-1)", ten.restore(-1), BAD_VALUE);
    }

    private void errorsOfRowsBeforeThoseOfValues() {
        checks.about("the first one that applies is returned: NO_SUCH before BAD_VALUE");
        WordSamples ten = tenRows();
        int[] noRows = {-1, 10, Integer.MIN_VALUE, Integer.MAX_VALUE};
        for (int row : noRows) {
            due("change(" + row + ", 0, 27)", ten.change(row, 0, 27), NO_SUCH);
            due("ofRow(" + row + ", 4)", ten.ofRow(row, 4), NO_SUCH);
            due("sample(" + row + ", 0, 3)", ten.sample(row, 0, 3), NO_SUCH);
            due("told(" + row + ", 0, 5)", ten.told(row, 0, 5), NO_SUCH);
            due("told(0, " + row + ", 5)", ten.told(0, row, 5), NO_SUCH);
            due("exact(" + row + ", 0, 3)", ten.exact(row, 0, 3), NO_SUCH);
            due("exact(0, " + row + ", 3)", ten.exact(0, row, 3), NO_SUCH);
            due("inside(" + row + ", 0, 3)", ten.inside(row, 0, 3), NO_SUCH);
            due("inside(0, " + row + ", 3)", ten.inside(0, row, 3), NO_SUCH);
            due("nearest(" + row + ", 2)", ten.nearest(row, 2), NO_SUCH);
            due("group(" + row + ", -1)", ten.group(row, -1), NO_SUCH);
            due("group(" + row + ", 10001)", ten.group(row, 10001), NO_SUCH);
        }
        due("change(0, 2, 27)", ten.change(0, 2, 27), NO_SUCH);
        due("change(0, -1, -1)", ten.change(0, -1, -1), NO_SUCH);
        due("sample(0, 2, 3)", ten.sample(0, 2, 3), NO_SUCH);
        due("sample(0, -1, -1)", ten.sample(0, -1, -1), NO_SUCH);
    }

    /** 10 rows, six changes that can be undone, a state in slot 0 alone, and a pad. */
    private static WordSamples busy(String pad) {
        WordSamples samples = tenRows();
        samples.save(0);
        samples.remove(3);
        samples.change(1, 1, 26);
        samples.set(WordSamples.OFFSET, 5);
        samples.set(WordSamples.KEPT, 3);
        Checks.add(samples, "z.");
        samples.change(9, 0, 3);
        Checks.put(samples, pad);
        return samples;
    }

    private void refused(String pad, String call, int want, ToIntFunction<WordSamples> made) {
        WordSamples samples = busy(pad);
        due(call + " with the pad '" + pad + "'", made.applyAsInt(samples), want);
        checks.holds("all is as before " + call, States.whole(samples).equals(States.whole(busy(pad))));
    }

    private void errorsChangeNothing() {
        checks.about("A call that returns an error changes nothing");
        int[][] sets = {{-1, 1}, {4, 1}, {0, 0}, {0, 5}, {1, 0}, {1, 33}, {2, 0}, {2, PRIME}, {3, -1}, {3, PRIME}};
        for (int[] set : sets) {
            refused("ab", "set(" + set[0] + ", " + set[1] + ")", BAD_VALUE, samples -> samples.set(set[0], set[1]));
        }
        refused("", "add()", BAD_TEXT, WordSamples::add);
        refused("a#", "add()", BAD_TEXT, WordSamples::add);
        refused("ab", "add()", TOO_MANY, WordSamples::add);
        refused("ab", "append(10)", NO_SUCH, samples -> samples.append(10));
        refused("ab", "append(-1)", NO_SUCH, samples -> samples.append(-1));
        refused("", "append(0)", BAD_TEXT, samples -> samples.append(0));
        refused("#a", "append(0)", BAD_TEXT, samples -> samples.append(0));
        refused(FULL.substring(1), "append(0)", TOO_MANY, samples -> samples.append(0));
        refused("ab", "change(10, 0, 0)", NO_SUCH, samples -> samples.change(10, 0, 0));
        refused("ab", "change(0, 2, 0)", NO_SUCH, samples -> samples.change(0, 2, 0));
        refused("ab", "change(1, -1, 0)", NO_SUCH, samples -> samples.change(1, -1, 0));
        refused("ab", "change(0, 0, 27)", BAD_VALUE, samples -> samples.change(0, 0, 27));
        refused("ab", "change(0, 0, -1)", BAD_VALUE, samples -> samples.change(0, 0, -1));
        refused("ab", "remove(10)", NO_SUCH, samples -> samples.remove(10));
        refused("ab", "remove(-1)", NO_SUCH, samples -> samples.remove(-1));
        refused("ab", "put(0)", BAD_VALUE, samples -> samples.put(0));
        refused("ab", "put(32)", BAD_VALUE, samples -> samples.put(32));
        refused("ab", "put of a gap", BAD_VALUE, samples -> samples.put(0x610061L));
        refused("ab", "put of a bad one behind good ones", BAD_VALUE, samples -> samples.put(0x6161617FL));
        refused(FULL, "put(97)", TOO_MANY, samples -> samples.put('a'));
        refused(FULL.substring(2), "put of three", TOO_MANY, samples -> samples.put(Checks.packed("xyz")));
        refused("ab", "save(2)", BAD_VALUE, samples -> samples.save(2));
        refused("ab", "save(-1)", BAD_VALUE, samples -> samples.save(-1));
        refused("ab", "restore(2)", BAD_VALUE, samples -> samples.restore(2));
        refused("ab", "restore(-1)", BAD_VALUE, samples -> samples.restore(-1));
        refused("ab", "restore(1)", NOT_POSSIBLE, samples -> samples.restore(1));
        refusedQuestions();
    }

    private void refusedQuestions() {
        refused("ab", "ofRow(10, 0)", NO_SUCH, samples -> samples.ofRow(10, 0));
        refused("ab", "ofRow(0, 4)", BAD_VALUE, samples -> samples.ofRow(0, 4));
        refused("ab", "sign(0, 2)", NO_SUCH, samples -> samples.sign(0, 2));
        refused("ab", "sample(0, 2, 0)", NO_SUCH, samples -> samples.sample(0, 2, 0));
        refused("ab", "sample(0, 0, 3)", BAD_VALUE, samples -> samples.sample(0, 0, 3));
        refused("ab", "count(8)", BAD_VALUE, samples -> samples.count(8));
        refused("ab", "told(0, 10, 0)", NO_SUCH, samples -> samples.told(0, 10, 0));
        refused("ab", "told(0, 1, 5)", BAD_VALUE, samples -> samples.told(0, 1, 5));
        refused("ab", "exact(10, 0, 0)", NO_SUCH, samples -> samples.exact(10, 0, 0));
        refused("ab", "exact(0, 1, 3)", BAD_VALUE, samples -> samples.exact(0, 1, 3));
        refused("ab", "inside(0, 10, 0)", NO_SUCH, samples -> samples.inside(0, 10, 0));
        refused("ab", "inside(0, 1, 3)", BAD_VALUE, samples -> samples.inside(0, 1, 3));
        refused("ab", "nearest(10, 0)", NO_SUCH, samples -> samples.nearest(10, 0));
        refused("ab", "nearest(0, 2)", BAD_VALUE, samples -> samples.nearest(0, 2));
        refused("ab", "candidates(10)", NO_SUCH, samples -> samples.candidates(10));
        refused("ab", "worst(3)", BAD_VALUE, samples -> samples.worst(3));
        refused("ab", "bestKept(10001)", BAD_VALUE, samples -> samples.bestKept(10001));
        refused("ab", "group(10, 0)", NO_SUCH, samples -> samples.group(10, 0));
        refused("ab", "group(0, 10001)", BAD_VALUE, samples -> samples.group(0, 10001));
    }

    private static WordSamples undone() {
        WordSamples samples = busy("xy");
        for (int change = 0; change < 6; change++) {
            samples.undo();
        }
        return samples;
    }

    private void refusedUndoChangesNothing() {
        checks.about("A call that returns an error changes nothing: undo() of no change");
        WordSamples samples = undone();
        due("undo()", samples.undo(), NOT_POSSIBLE);
        due("undo() again", samples.undo(), NOT_POSSIBLE);
        checks.holds("all is as before", States.whole(samples).equals(States.whole(undone())));
    }

    private void noneOnlyIfNoError() {
        checks.about("NONE (-6) is not an error; it is returned only if no error applies");
        WordSamples none = new WordSamples();
        for (int what : new int[] {-1, 3}) {
            due("worst(" + what + ") of no row", none.worst(what), BAD_VALUE);
        }
        due("nearest(0, 0) of no row", none.nearest(0, 0), NO_SUCH);
        WordSamples one = Checks.words(2, 8, "a");
        due("ofRow(0, 4) of a row without words", one.ofRow(0, 4), BAD_VALUE);
        due("ofRow(1, 3)", one.ofRow(1, 3), NO_SUCH);
        due("nearest(1, 0) of one row", one.nearest(1, 0), NO_SUCH);
        due("nearest(0, 2) of one row", one.nearest(0, 2), BAD_VALUE);
        due("nearest(0, -1) of one row", one.nearest(0, -1), BAD_VALUE);
        due("worst(3) of one row", one.worst(3), BAD_VALUE);
        WordSamples far = Checks.words(2, 8, BRANCHES, BRANCHES.substring(0, 46));
        due("bestKept(0) where none is near", far.bestKept(0), NONE);
        due("bestKept(-1) where none is near", far.bestKept(-1), BAD_VALUE);
    }

    private void numberedFromZero() {
        checks.about("Everything is numbered from 0");
        WordSamples samples = new WordSamples();
        due("the first row", Checks.add(samples, "xyza"), 0);
        due("the first sign", samples.sign(0, 0), 23);
        due("set of the first setting", samples.set(0, 1), 3);
        due("the first word of the sample", samples.sample(0, 0, 2), 1);
        due("the first slot", samples.save(0), 1);
    }

    private void roundedDown() {
        checks.about("Shares are told in ten-thousandths, rounded down");
        WordSamples samples = Checks.letters(32, "abc", "ab", "abd", "a");
        due("told: 2 of 3", samples.told(0, 1, 2), 6666);
        due("lower bound: 2 of 3", samples.told(0, 1, 3), 6666);
        due("exact: 2 of 3", samples.exact(0, 1, 2), 6666);
        due("inside: 2 of 3", samples.inside(0, 1, 0), 6666);
        due("inside, at least: 2 of 3", samples.inside(0, 1, 1), 6666);
        due("told: 1 of 2", samples.told(1, 3, 2), 5000);
        due("exact: 1 of 2", samples.exact(1, 3, 2), 5000);
        due("told: 3 of 3", samples.told(0, 0, 2), 10000);
    }

    private void roundedUp() {
        checks.about("the same with the most common words as c, rounded up");
        WordSamples samples = Checks.letters(32, "abc", "ab", "a", "d");
        due("2 of 3", samples.told(0, 1, 4), 6667);
        due("1 of 3", samples.told(0, 2, 4), 3334);
        due("1 of 2 is not raised", samples.told(1, 2, 4), 5000);
        due("3 of 3 is not raised", samples.told(0, 0, 4), 10000);
        due("0 of 2 is not raised", samples.told(2, 3, 4), 0);
        due("inside: 2 of 3", samples.inside(0, 1, 2), 6667);
        due("inside: 1 of 2 is not raised", samples.inside(1, 2, 2), 5000);
        due("inside: 1 of 1 is not raised", samples.inside(2, 0, 2), 10000);
    }

    private void shareOfNothing() {
        checks.about("a share of nothing (0 of 0) is 0");
        WordSamples samples = Checks.words(2, 8, "a", "b", "abc");
        int[][] pairs = {{0, 1}, {0, 0}, {1, 0}};
        for (int[] pair : pairs) {
            for (int what = 0; what < 5; what++) {
                due("told(" + pair[0] + ", " + pair[1] + ", " + what + ")", samples.told(pair[0], pair[1], what), 0);
            }
            for (int what = 0; what < 3; what++) {
                due("exact(" + pair[0] + ", " + pair[1] + ", " + what + ")", samples.exact(pair[0], pair[1], what), 0);
            }
        }
        for (int other = 0; other < 3; other++) {
            for (int what = 0; what < 3; what++) {
                due("inside(0, " + other + ", " + what + ")", samples.inside(0, other, what), 0);
            }
        }
        samples.remove(2);
        due("nearest(1, 0)", samples.nearest(1, 0), 0);
        due("nearest(0, 1)", samples.nearest(0, 1), 1);
        due("candidates(0)", samples.candidates(0), 2);
        due("worst(2)", samples.worst(2), 0);
        due("bestKept(0)", samples.bestKept(0), 1);
        due("group(1, 1)", samples.group(1, 1), 1);
        due("group(1, 0)", samples.group(1, 0), 0);
    }

    // ---- settings

    private void settings() {
        rangeOfSetting("WIDTH (1 to 4; 3)", 0, 1, 4, 3);
        rangeOfSetting("KEPT (1 to 32; 8)", 1, 1, 32, 8);
        rangeOfSetting("FACTOR (1 to 1000002; 7919)", 2, 1, 1000002, 7919);
        rangeOfSetting("OFFSET (0 to 1000002; 104729)", 3, 0, 1000002, 104729);
        extremeWidths();
        extremeKept();
        extremeFactors();
        extremeOffsets();
    }

    private void rangeOfSetting(String sentence, int setting, int least, int most, int first) {
        checks.about(sentence);
        WordSamples samples = new WordSamples();
        due("its first value", samples.count(setting + 1), first);
        due("the least less 1", samples.set(setting, least - 1), BAD_VALUE);
        due("the greatest and 1", samples.set(setting, most + 1), BAD_VALUE);
        due("the least int", samples.set(setting, Integer.MIN_VALUE), BAD_VALUE);
        due("the greatest int", samples.set(setting, Integer.MAX_VALUE), BAD_VALUE);
        due("its value then", samples.count(setting + 1), first);
        due("the least", samples.set(setting, least), first);
        due("its value then", samples.count(setting + 1), least);
        due("the greatest", samples.set(setting, most), least);
        due("its value then", samples.count(setting + 1), most);
    }

    private void extremeWidths() {
        checks.about("WIDTH (1 to 4)");
        WordSamples samples = Checks.words(1, 8, "abcde");
        due("words with WIDTH 1", samples.ofRow(0, 1), 5);
        due("the last one", samples.sample(0, 4, 1), 4);
        samples.set(WordSamples.WIDTH, 4);
        due("words with WIDTH 4", samples.ofRow(0, 1), 2);
        // bcde: 19683 + 2 * 729 + 3 * 27 + 4
        due("the last one", samples.sample(0, 1, 1), 21226);
    }

    private void extremeKept() {
        checks.about("KEPT (1 to 32)");
        WordSamples samples = Checks.words(2, 1, BRANCHES);
        due("the sample with KEPT 1", samples.ofRow(0, 2), 1);
        due("its greatest value", samples.ofRow(0, 3), 1);
        due("sample(0, 1, 0)", samples.sample(0, 1, 0), NO_SUCH);
        samples.set(WordSamples.KEPT, 32);
        due("the sample with KEPT 32", samples.ofRow(0, 2), 32);
        due("the words with KEPT 32", samples.ofRow(0, 1), 49);
        // ab to az are 1 to 25; ba, ca, da, ea, fa, ga, ha: the seventh is 7 * 27
        due("its greatest value", samples.ofRow(0, 3), 189);
        due("sample(0, 31, 0)", samples.sample(0, 31, 0), 189);
        due("sample(0, 32, 0)", samples.sample(0, 32, 0), NO_SUCH);
        due("the common sample with KEPT 32", samples.told(0, 0, 0), 32);
    }

    private void extremeFactors() {
        checks.about("FACTOR (1 to 1000002)");
        WordSamples samples = Checks.letters(8, "ac");
        due("c with FACTOR 1", samples.sample(0, 1, 0), 2);
        samples.set(WordSamples.FACTOR, 1000002);
        // FACTOR is -1 then: c is 1000003 - 2
        due("c with FACTOR 1000002", samples.sample(0, 1, 0), 1000001);
        due("a with FACTOR 1000002", samples.sample(0, 0, 0), 0);
    }

    private void extremeOffsets() {
        checks.about("OFFSET (0 to 1000002)");
        WordSamples samples = Checks.letters(8, "ac");
        due("a with OFFSET 0", samples.sample(0, 0, 0), 0);
        samples.set(WordSamples.OFFSET, 1000002);
        due("the least one with OFFSET 1000002", samples.sample(0, 0, 0), 1);
        due("it is c", samples.sample(0, 0, 1), 2);
        due("the greatest one with OFFSET 1000002", samples.sample(0, 1, 0), 1000002);
    }

    // ---- rows and words

    private void rowsAndWords() {
        upToTenRows();
        thoseBehindMoveUp();
        oneToSixtyFourSigns();
        lettersAndTheDot();
        wordsEachOnce();
        rowsShorterThanWidth();
        wordsOfTheLongestRow();
        codesOfWords();
        valuesThatWrapAround();
        valuesBeyondAnInt();
        differentValues();
    }

    private void upToTenRows() {
        checks.about("There are up to 10 rows, numbered in the order in which they came");
        WordSamples samples = new WordSamples();
        for (int row = 0; row < 10; row++) {
            due("row", Checks.add(samples, "" + (char) ('a' + row)), row);
        }
        due("an eleventh row", Checks.add(samples, "z"), TOO_MANY);
        due("rows", samples.count(0), 10);
        for (int row = 0; row < 10; row++) {
            due("sign(" + row + ", 0)", samples.sign(row, 0), row);
        }
        due("sign(10, 0)", samples.sign(10, 0), NO_SUCH);
    }

    private void thoseBehindMoveUp() {
        checks.about("when one is taken out, those behind it move up");
        for (int out = 0; out < 10; out++) {
            WordSamples samples = tenRows();
            due("remove(" + out + ")", samples.remove(out), 9);
            for (int row = 0; row < 9; row++) {
                due("sign(" + row + ", 0) after it", samples.sign(row, 0), row < out ? row : row + 1);
            }
            due("sign(9, 0) after it", samples.sign(9, 0), NO_SUCH);
            due("the next row", Checks.add(samples, "z"), 9);
            due("its signs", samples.ofRow(9, 0), 1);
        }
    }

    private void oneToSixtyFourSigns() {
        checks.about("A row is a text of 1 to 64 signs");
        WordSamples samples = new WordSamples();
        due("add() of no sign", samples.add(), BAD_TEXT);
        Checks.add(samples, ".");
        checks.rowIs("one sign", samples, 0, ".");
        Checks.add(samples, FULL);
        checks.rowIs("64 signs", samples, 1, FULL);
        Checks.put(samples, "z");
        due("append of a 65th sign", samples.append(1), TOO_MANY);
        due("append of the second sign", samples.append(0), 2);
        checks.rowIs("two signs", samples, 0, ".z");
    }

    private void lettersAndTheDot() {
        checks.about("signs, each a letter from a to z or a dot");
        for (int code = 33; code <= 126; code++) {
            WordSamples samples = new WordSamples();
            samples.put(code);
            int sign = Checks.ALPHABET.indexOf(code);
            due("fault() of " + code, samples.fault(), sign < 0 ? 0 : NONE);
            due("add() of " + code, samples.add(), sign < 0 ? BAD_TEXT : 0);
            due("sign of " + code, samples.sign(0, 0), sign < 0 ? NO_SUCH : sign);
        }
    }

    private void wordsEachOnce() {
        checks.about("all its parts of WIDTH signs one after the other, each of them once, however often it stands there");
        WordSamples samples = Checks.words(1, 8, "aaaa", "abab", "aaaaaaaaaaaaaaaa");
        for (int width = 1; width <= 4; width++) {
            samples.set(WordSamples.WIDTH, width);
            due("words of aaaa with WIDTH " + width, samples.ofRow(0, 1), 1);
            due("how often with WIDTH " + width, samples.sample(0, 0, 2), 5 - width);
            due("words of abab with WIDTH " + width, samples.ofRow(1, 1), width == 4 ? 1 : 2);
            due("sample of the row of 16 with WIDTH " + width, samples.ofRow(2, 2), 1);
            due("how often with WIDTH " + width, samples.sample(2, 0, 2), 17 - width);
        }
        for (int more = 0; more < 3; more++) {
            Checks.put(samples, "aaaaaaaaaaaaaaaa");
            samples.append(2);
        }
        samples.set(WordSamples.WIDTH, 1);
        due("how often in a full row", samples.sample(2, 0, 2), 64);
    }

    private void rowsShorterThanWidth() {
        checks.about("A row with fewer signs than WIDTH has no words");
        WordSamples samples = Checks.letters(8, "a", "ab", "abc", "abcd", "abcde");
        for (int width = 1; width <= 4; width++) {
            samples.set(WordSamples.WIDTH, width);
            for (int row = 0; row < 5; row++) {
                int words = Math.max(0, row + 2 - width);
                String of = " of " + (row + 1) + " signs with WIDTH " + width;
                due("words" + of, samples.ofRow(row, 1), words);
                due("sample" + of, samples.ofRow(row, 2), words);
                due("sample behind" + of, samples.sample(row, words, 0), NO_SUCH);
                due("a word" + of, samples.sample(row, 0, 2), words == 0 ? NO_SUCH : 1);
            }
        }
    }

    private void wordsOfTheLongestRow() {
        checks.about("The words of a row are all its parts of WIDTH signs: 63 of a full row");
        WordSamples samples = Checks.words(2, 32, BRANCHES + "bcbdbebfbgbhbi", "cdcecfcgchcicjckclcmcncocpcqcrcsctcucvcwcxcyczc.dedfdgdhdidjdkdl");
        for (int row = 0; row < 2; row++) {
            due("signs of row " + row, samples.ofRow(row, 0), 64);
            due("words of row " + row, samples.ofRow(row, 1), 63);
        }
        due("words of both", samples.exact(0, 1, 0), 126);
        due("words in both", samples.exact(0, 1, 1), 0);
        due("words of all rows", samples.count(5), 126);
        due("words of a row and itself", samples.exact(1, 1, 1), 63);
    }

    private void dueCode(int width, String word, int code) {
        WordSamples samples = Checks.words(width, 8, word);
        due("code of " + word, samples.sample(0, 0, 1), code);
        due("value of " + word, samples.sample(0, 0, 0), code);
    }

    private void codesOfWords() {
        checks.about("its signs as numbers from 0 (a) to 25 (z), and 26 (the dot), as the digits of a number to the base 27");
        dueCode(1, "a", 0);
        dueCode(1, "z", 25);
        dueCode(1, ".", 26);
        dueCode(2, "a.", 26);
        dueCode(2, "ba", 27);
        dueCode(2, ".a", 702);
        dueCode(2, "..", 728);
        dueCode(3, "a..", 728);
        dueCode(3, "baa", 729);
        dueCode(3, "...", 19682);
        dueCode(4, "aaaa", 0);
        dueCode(4, "aaab", 1);
        dueCode(4, "baaa", 19683);
        dueCode(4, "....", 531440);
    }

    private void valuesThatWrapAround() {
        checks.about("its code * FACTOR + OFFSET, left over by 1000003");
        WordSamples samples = Checks.letters(8, "abc");
        samples.set(WordSamples.OFFSET, 1000002);
        int[][] wants = {{0, 1}, {1, 2}, {1000002, 0}};
        for (int place = 0; place < 3; place++) {
            due("value of place " + place, samples.sample(0, place, 0), wants[place][0]);
            due("code of place " + place, samples.sample(0, place, 1), wants[place][1]);
        }
        samples.set(WordSamples.OFFSET, 1000001);
        // a is 1000001, b is 1000002, and c is 1000003, which leaves 0.
        due("the least one", samples.sample(0, 0, 1), 2);
        due("its value", samples.sample(0, 0, 0), 0);
        due("the greatest value", samples.ofRow(0, 3), 1000002);
    }

    private void valuesBeyondAnInt() {
        checks.about("its code * FACTOR + OFFSET, left over by 1000003: also where these are beyond an int");
        WordSamples samples = Checks.words(4, 8, "....", "zzzz", ".aaa", "baaa");
        samples.set(WordSamples.FACTOR, 4041);
        // 531440 * 4041 is 2147549040
        due(".... with FACTOR 4041", samples.sample(0, 0, 0), 542599);
        samples.set(WordSamples.FACTOR, 4040);
        samples.set(WordSamples.OFFSET, 1000002);
        // 531440 * 4040 + 1000002 is 2148017602
        due(".... with FACTOR 4040", samples.sample(0, 0, 0), 11158);
        int[] codes = {531440, 511000, 511758, 19683};
        int[] factors = {1, 7919, 8081, 8082, 8083, 500001, 500002, 1000001, 1000002};
        for (int factor : factors) {
            for (int offset : new int[] {0, 1000002}) {
                samples.set(WordSamples.FACTOR, factor);
                samples.set(WordSamples.OFFSET, offset);
                for (int row = 0; row < 4; row++) {
                    String with = "row " + row + " with FACTOR " + factor + ", OFFSET " + offset;
                    due("code of " + with, samples.sample(row, 0, 1), codes[row]);
                    due("value of " + with, samples.sample(row, 0, 0), ((long) codes[row] * factor + offset) % PRIME);
                }
            }
        }
    }

    private void differentValues() {
        checks.about("1000003 is a prime number, so no two words have the same value");
        WordSamples samples = Checks.words(4, 32, FULL.replace('p', '.'), "aaaabaaacaaadaaaeaaafaaagaaahaaaiaaajaaakaaalaaamaaanaaaoaaapaaa");
        int first = samples.ofRow(0, 1);
        int second = samples.ofRow(1, 1);
        due("words of a row that repeats itself", first, 16);
        due("words of a row without such", second, 61);
        for (int factor : new int[] {2, 7919, 500001, 500002, 1000001, 1000002}) {
            samples.set(WordSamples.FACTOR, factor);
            due("words with FACTOR " + factor, samples.ofRow(1, 1), second);
            due("words of all with FACTOR " + factor, samples.count(5), first + second);
            for (int place = 1; place < 32; place++) {
                int before = samples.sample(1, place - 1, 0);
                checks.holds("values go up, FACTOR " + factor + ", place " + place, before < samples.sample(1, place, 0));
            }
        }
    }

    // ---- samples

    private void samples() {
        wordsOfTheSample();
        orderOfTheSample();
        wordsOfTheCommonSample();
        leastOfAllWords();
        sharedWords();
    }

    private void wordsOfTheSample() {
        checks.about("the KEPT words of it with the least values (all its words, if it has no more)");
        WordSamples samples = Checks.letters(8, "ecadbc");
        int[] wants = {1, 2, 3, 4, 5, 5, 5};
        for (int kept = 1; kept <= 7; kept++) {
            samples.set(WordSamples.KEPT, kept);
            int size = wants[kept - 1];
            due("sample of 5 words with KEPT " + kept, samples.ofRow(0, 2), size);
            due("its greatest value", samples.ofRow(0, 3), size - 1);
            due("its last word", samples.sample(0, size - 1, 1), size - 1);
            due("the word behind it", samples.sample(0, size, 1), NO_SUCH);
            due("words with KEPT " + kept, samples.ofRow(0, 1), 5);
        }
    }

    private void orderOfTheSample() {
        checks.about("with the least values: of the values, not of the codes");
        WordSamples samples = Checks.letters(2, "abcdef");
        samples.set(WordSamples.FACTOR, 1000002);
        // a is 0, and f, e, d, c, b are 999998 to 1000002.
        due("the least one", samples.sample(0, 0, 1), 0);
        due("the next one", samples.sample(0, 1, 1), 5);
        due("the greatest value of the sample", samples.ofRow(0, 3), 999998);
        samples.set(WordSamples.OFFSET, 3);
        // d is 0, c 1, b 2, a 3; f is 1000001, and e 1000002.
        due("the least one", samples.sample(0, 0, 1), 3);
        due("the greatest value of the sample", samples.ofRow(0, 3), 1);
    }

    private void wordsOfTheCommonSample() {
        checks.about("of all words that are in one of the rows or in both (all of them, if there are no more)");
        WordSamples samples = Checks.letters(8, "abc", "cde");
        int[] common = {1, 2, 3, 4, 5, 5, 5};
        int[] shared = {0, 0, 1, 1, 1, 1, 1};
        for (int kept = 1; kept <= 7; kept++) {
            samples.set(WordSamples.KEPT, kept);
            due("common sample with KEPT " + kept, samples.told(0, 1, 0), common[kept - 1]);
            due("of the rows the other way round", samples.told(1, 0, 0), common[kept - 1]);
            due("shared words with KEPT " + kept, samples.told(0, 1, 1), shared[kept - 1]);
        }
        WordSamples wide = Checks.words(2, 32, "aabacadaeafagahaiajakalamanaoap", "q", "qp");
        due("30 words beside none, with KEPT 32", wide.told(0, 1, 0), 30);
        due("31 words, with KEPT 32", wide.told(0, 2, 0), 31);
        Checks.put(wide, "qr");
        wide.append(2);
        due("33 words, with KEPT 32", wide.told(0, 2, 0), 32);
        due("33 words", wide.exact(0, 2, 0), 33);
    }

    private void leastOfAllWords() {
        checks.about("The common sample of two rows are the KEPT words with the least values of all words");
        WordSamples samples = Checks.letters(2, "abcd", "cd", "yz");
        // a b are the least ones: c and d are in the sample of row 1 alone.
        due("shared words of abcd and cd", samples.told(0, 1, 1), 0);
        samples.set(WordSamples.KEPT, 3);
        due("shared words with KEPT 3", samples.told(0, 1, 1), 1);
        due("common sample of cd and yz", samples.told(1, 2, 0), 3);
        // y is in the common sample of cd and yz, z is not: the rests are nothing, and z.
        due("upper bound of cd and yz", samples.told(1, 2, 4), 0);
        WordSamples both = Checks.letters(2, "ac", "bc");
        // c is in the samples of both rows, but a b are the common one.
        due("shared words of ac and bc", both.told(0, 1, 1), 0);
        due("told share of ac and bc", both.told(0, 1, 2), 0);
    }

    private void sharedWords() {
        checks.about("the shared words of the sample are the words of the common sample that are in both rows");
        WordSamples samples = Checks.letters(32, "abz", "bcz");
        int[] wants = {0, 1, 1, 2, 2};
        int[] shares = {0, 5000, 3333, 5000, 5000};
        for (int kept = 1; kept <= 5; kept++) {
            samples.set(WordSamples.KEPT, kept);
            due("shared words with KEPT " + kept, samples.told(0, 1, 1), wants[kept - 1]);
            due("told share with KEPT " + kept, samples.told(0, 1, 2), shares[kept - 1]);
        }
    }

    // ---- shares and bounds

    private void sharesAndBounds() {
        toldOfFewWords();
        trueShares();
        restsBesideAnotherRow();
        smallerRest();
        boundsThatMeet();
    }

    private void toldOfFewWords() {
        checks.about("The told share is these, divided by the words of the common sample");
        WordSamples samples = Checks.letters(32, "ab", "bc", "a");
        // The sample has three words alone, and KEPT is 32.
        due("told share of ab and bc", samples.told(0, 1, 2), 3333);
        due("told share of ab and a", samples.told(0, 2, 2), 5000);
        samples.set(WordSamples.KEPT, 1);
        due("told share of ab and a with KEPT 1", samples.told(0, 2, 2), 10000);
        due("told share of bc and a with KEPT 1", samples.told(1, 2, 2), 0);
    }

    private void trueShares() {
        checks.about("the number of words that are in both, divided by the number of words that are in one of them or in both");
        WordSamples samples = Checks.letters(1, "abc", "bcd", "abc", "xyz");
        due("2 of 4", samples.exact(0, 1, 2), 5000);
        due("all", samples.exact(0, 2, 2), 10000);
        due("none", samples.exact(0, 3, 2), 0);
        due("none of 6", samples.exact(0, 3, 0), 6);
        WordSamples wide = Checks.words(2, 1, BRANCHES, BRANCHES.replace('a', '.'));
        due("98 words in all", wide.exact(0, 1, 0), 98);
        due("none of them in both", wide.exact(0, 1, 1), 0);
        due("49 of 49", wide.exact(0, 0, 2), 10000);
    }

    private void restsBesideAnotherRow() {
        checks.about("The rest of a row, beside another one, is how many of its words are not in the common sample");
        WordSamples samples = Checks.letters(3, "abc", "xyz", "abcx");
        // Beside xyz nothing is left of abc, though xyz has all its words left.
        due("upper bound of abc and xyz", samples.told(0, 1, 4), 0);
        due("inside at most", samples.inside(1, 0, 2), 0);
        due("upper bound of abc and abcx", samples.told(0, 2, 4), 7500);
        samples.set(WordSamples.KEPT, 2);
        // c, and x y z: one of them could be the same, 1 of 5.
        due("upper bound of abc and xyz with KEPT 2", samples.told(0, 1, 4), 2000);
        // c, and c x: a b and one more are common at most.
        due("upper bound of abc and abcx with KEPT 2", samples.told(0, 2, 4), 7500);
        due("lower bound of abc and abcx with KEPT 2", samples.told(0, 2, 3), 4000);
        // d e f, and y z, none of which is in the common sample: 2 of 6.
        WordSamples none = Checks.letters(3, "abcdef", "yz");
        due("upper bound of abcdef and yz", none.told(0, 1, 4), 3334);
        due("upper bound of yz and abcdef", none.told(1, 0, 4), 3334);
        due("inside at most, of yz in abcdef", none.inside(1, 0, 2), 10000);
    }

    private void smallerRest() {
        checks.about("these and the smaller one of both rests, together");
        WordSamples samples = Checks.letters(2, "abc", "abdef", "ab", "abcd");
        // Rests c, and d e f: 3 of 5.
        due("upper bound", samples.told(0, 1, 4), 6000);
        due("upper bound the other way round", samples.told(1, 0, 4), 6000);
        due("inside at most", samples.inside(0, 1, 2), 10000);
        due("inside at most the other way round", samples.inside(1, 0, 2), 6000);
        // A rest of nothing.
        due("upper bound of abcd and ab", samples.told(3, 2, 4), 5000);
        due("upper bound of ab and abcd", samples.told(2, 3, 4), 5000);
        due("inside at most, of abcd in ab", samples.inside(3, 2, 2), 5000);
        // The same row: both rests are c d.
        due("upper bound of abcd and itself", samples.told(3, 3, 4), 10000);
        due("lower bound of abcd and itself", samples.told(3, 3, 3), 3333);
    }

    private void boundsThatMeet() {
        checks.about("the least common words c, divided by (the words of both rows, added, less c), rounded down; and the same .. rounded up");
        WordSamples samples = Checks.letters(32, "abcdefg", "gh", "xyz", "a");
        due("lower bound of 1 of 8", samples.told(0, 1, 3), 1250);
        due("upper bound of 1 of 8", samples.told(0, 1, 4), 1250);
        due("lower bound of 1 of 7", samples.told(0, 3, 3), 1428);
        due("upper bound of 1 of 7", samples.told(0, 3, 4), 1429);
        due("lower bound of nothing in common", samples.told(0, 2, 3), 0);
        due("upper bound of nothing in common", samples.told(0, 2, 4), 0);
        samples.set(WordSamples.KEPT, 7);
        // h alone is left, and of row 0 nothing.
        due("lower bound with KEPT 7", samples.told(0, 1, 3), 1250);
        due("upper bound with KEPT 7", samples.told(0, 1, 4), 1250);
        samples.set(WordSamples.KEPT, 6);
        // g, and g h: 0 of 9, or 1 of 8.
        due("lower bound with KEPT 6", samples.told(0, 1, 3), 0);
        due("upper bound with KEPT 6", samples.told(0, 1, 4), 1250);
        samples.set(WordSamples.KEPT, 1);
        // b to g, and g h: 2 of 7.
        due("upper bound with KEPT 1", samples.told(0, 1, 4), 2858);
        due("lower bound with KEPT 1", samples.told(0, 1, 3), 0);
        // a is shared: 1 of 7; and with b c d beside b e f 4 of 4.
        WordSamples one = Checks.letters(1, "abcd", "abef");
        due("lower bound of abcd and abef", one.told(0, 1, 3), 1428);
        due("upper bound of abcd and abef", one.told(0, 1, 4), 10000);
    }
}
