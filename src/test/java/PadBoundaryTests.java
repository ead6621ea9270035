/** The sentences of promises 19 to 21 that name a boundary case, one test for each. */
public final class PadBoundaryTests {
    private static final int BAD_VALUE = -2, BAD_TEXT = -3, TOO_MANY = -4, NONE = -6;
    private static final String FULL = Checks.FULL;

    private final Checks checks = new Checks();

    public static void main(String[] args) {
        PadBoundaryTests tests = new PadBoundaryTests();
        tests.oneToEightCharacters();
        tests.lowestBitsAreTheLast();
        tests.noCharacter();
        tests.codesOutOfRange();
        tests.bitsAboveTheEnd();
        tests.padLongerThanSixtyFour();
        tests.badValueBeforeTooMany();
        tests.wipes();
        tests.faultOfAnEmptyPad();
        tests.firstFault();
        tests.faultOfNone();
        tests.noChanges();
        tests.checks.end("PadBoundaryTests");
    }

    private void due(String call, long got, long want) {
        checks.due(call, got, want);
    }

    // ---- promise 19

    private void oneToEightCharacters() {
        checks.about("19: characters: 1 to 8 characters; Returns the length of the pad then");
        for (int length = 1; length <= 8; length++) {
            WordSamples samples = new WordSamples();
            String text = "z.abcdef".substring(0, length);
            due("put of " + text, samples.put(Checks.packed(text)), length);
            due("put of it again", samples.put(Checks.packed(text)), 2 * length);
            samples.add();
            checks.rowIs("put of " + text, samples, 0, text + text);
        }
    }

    private void lowestBitsAreTheLast() {
        checks.about("19: its lowest 8 bits are the last character, the next 8 bits the one before, and so on");
        WordSamples samples = new WordSamples();
        due("put of abc", samples.put(0x616263L), 3);
        due("put of z", samples.put(0x7AL), 4);
        due("put of .bcdefgh", samples.put(0x2E62636465666768L), 12);
        due("add()", samples.add(), 0);
        checks.rowIs("put", samples, 0, "abcz.bcdefgh");
    }

    private void noCharacter() {
        checks.about("19: BAD_VALUE if there is no character");
        WordSamples samples = new WordSamples();
        due("put(0)", samples.put(0), BAD_VALUE);
        due("the pad", samples.count(6), 0);
        Checks.put(samples, "ab");
        due("put(0)", samples.put(0), BAD_VALUE);
        due("the pad", samples.count(6), 2);
    }

    private void codesOutOfRange() {
        checks.about("19: BAD_VALUE if a code is not 33 to 126");
        for (int place = 0; place < 8; place++) {
            for (int code = 0; code < 256; code++) {
                // All the other ones are letters; a code of 0 is right at the front alone.
                long characters = 0x6161616161616161L & ~(255L << 8 * place) | (long) code << 8 * place;
                int want = code == 0 && place == 7 ? 7 : code >= 33 && code <= 126 ? 8 : BAD_VALUE;
                due("put with the code " + code + " at " + place, new WordSamples().put(characters), want);
            }
        }
        for (int code = 1; code < 256; code++) {
            due("put(" + code + ")", new WordSamples().put(code), code >= 33 && code <= 126 ? 1 : BAD_VALUE);
        }
        for (long characters : new long[] {-1, -97, Long.MIN_VALUE, Long.MAX_VALUE, 0xFFFFFFFF00000061L, 0x8000000000000061L}) {
            due("put(" + characters + ")", new WordSamples().put(characters), BAD_VALUE);
        }
    }

    private void bitsAboveTheEnd() {
        checks.about("19: BAD_VALUE if a bit above 8 bits that are 0 is not 0");
        for (int gap = 0; gap < 7; gap++) {
            for (int bit = 8 * gap + 8; bit < 64; bit++) {
                WordSamples samples = new WordSamples();
                long below = 0x6161616161616161L & (1L << 8 * gap) - 1;
                due("put with bit " + bit + " above the gap " + gap, samples.put(below | 1L << bit), BAD_VALUE);
                due("the pad", samples.count(6), 0);
            }
            long letter = 0x6161616161616161L & ~(255L << 8 * gap);
            due("put with letters around the gap " + gap, new WordSamples().put(letter), BAD_VALUE);
        }
    }

    private void padLongerThanSixtyFour() {
        checks.about("19: TOO_MANY if the pad would be longer than 64");
        for (int length = 1; length <= 8; length++) {
            WordSamples samples = new WordSamples();
            String text = "zyxwvuts".substring(0, length);
            Checks.put(samples, FULL.substring(0, 65 - length));
            due("put to 65", samples.put(Checks.packed(text)), TOO_MANY);
            due("the pad", samples.count(6), 65 - length);
            samples.wipe();
            Checks.put(samples, FULL.substring(0, 64 - length));
            due("put to 64", samples.put(Checks.packed(text)), 64);
            due("put to a full pad", samples.put(Checks.packed(text)), TOO_MANY);
            due("put of one to a full pad", samples.put('a'), TOO_MANY);
            due("add() of the full pad", samples.add(), 0);
            checks.rowIs("put to 64", samples, 0, FULL.substring(0, 64 - length) + text);
        }
    }

    private void badValueBeforeTooMany() {
        checks.about("19: BAD_VALUE if ..; TOO_MANY if the pad would be longer than 64: in this order");
        WordSamples samples = new WordSamples();
        Checks.put(samples, FULL);
        for (long characters : new long[] {0, 32, 127, 0x6100, 0x610061, 0x61617F, -1, Long.MIN_VALUE}) {
            due("put(" + characters + ") to a full pad", samples.put(characters), BAD_VALUE);
        }
        due("the pad", samples.count(6), 64);
    }

    // ---- promise 20

    private void wipes() {
        checks.about("20: Empties the pad, and returns the length that it had");
        for (int length = 0; length <= 64; length++) {
            WordSamples samples = new WordSamples();
            Checks.put(samples, FULL.substring(0, length));
            due("wipe()", samples.wipe(), length);
            due("the pad", samples.count(6), 0);
            due("fault()", samples.fault(), 0);
            due("wipe() again", samples.wipe(), 0);
            due("add()", samples.add(), BAD_TEXT);
        }
        WordSamples samples = new WordSamples();
        Checks.put(samples, "#!~");
        due("wipe() of bad signs", samples.wipe(), 3);
        Checks.add(samples, "ab");
        checks.rowIs("after wipe()", samples, 0, "ab");
    }

    // ---- promise 21

    private void faultOfAnEmptyPad() {
        checks.about("21: 0 if it is empty");
        WordSamples samples = new WordSamples();
        due("fault() of a new object", samples.fault(), 0);
        Checks.put(samples, "ab");
        due("fault() of ab", samples.fault(), NONE);
        samples.wipe();
        due("fault() of a wiped pad", samples.fault(), 0);
        Checks.add(samples, "ab");
        due("fault() after add()", samples.fault(), 0);
    }

    private void firstFault() {
        checks.about("21: Returns the index of the first sign of the pad that is neither a letter from a to z nor a dot");
        for (int place = 0; place < 64; place++) {
            WordSamples samples = new WordSamples();
            Checks.put(samples, FULL.substring(0, place) + (place % 2 == 0 ? '`' : '{') + FULL.substring(place + 1));
            due("fault() of one at " + place, samples.fault(), place);
            samples.wipe();
            Checks.put(samples, FULL.substring(0, place) + "#".repeat(64 - place));
            due("fault() of all from " + place, samples.fault(), place);
            due("fault() again", samples.fault(), place);
        }
    }

    private void faultOfNone() {
        checks.about("21: NONE if there is none, and it is not empty");
        for (String text : new String[] {"a", "z", ".", "az.", "......", FULL}) {
            WordSamples samples = new WordSamples();
            Checks.put(samples, text);
            due("fault() of " + text, samples.fault(), NONE);
            due("the pad", samples.count(6), text.length());
            due("add()", samples.add(), 0);
        }
    }

    private void noChanges() {
        checks.about("the pad: put, wipe and fault are no changes");
        WordSamples samples = new WordSamples();
        samples.put('a');
        samples.fault();
        samples.wipe();
        due("count(7)", samples.count(7), 0);
        due("undo()", samples.undo(), -5);
    }
}
