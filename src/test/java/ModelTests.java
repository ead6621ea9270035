/** Long runs of calls on the class and on NaiveSamples: every answer has to be the same. */
public final class ModelTests {
    private static final String SIGNS = "abcdefghijklmnopqrstuvwxyz.";
    private static final int[] ODD = {
        Integer.MIN_VALUE, Integer.MIN_VALUE + 1, -10001, -2, -1, 0, 1, 2, 3, 4, 5, 6, 7, 8, 9, 10, 11, 26, 27, 31, 32, 33,
        63, 64, 65, 9999, 10000, 10001, 1000002, 1000003, Integer.MAX_VALUE - 1, Integer.MAX_VALUE
    };

    private final Checks checks = new Checks();
    private long seed;
    private WordSamples real;
    private NaiveSamples naive;
    private String told;
    private int letters;

    public static void main(String[] args) {
        ModelTests tests = new ModelTests();
        for (int run = 0; run < 400 && tests.checks.wrong() == 0; run++) {
            tests.run(run);
        }
        tests.checks.end("ModelTests");
    }

    private void run(int number) {
        seed = 0x9E3779B97F4A7C15L * (number + 1);
        real = new WordSamples();
        naive = new NaiveSamples();
        letters = new int[] {1, 2, 3, 4, 6, 27}[number % 6];
        for (int call = 1; call <= 512 && checks.wrong() == 0; call++) {
            told = "run " + number + ", call " + call + ": ";
            if (number % 2 == 0 && call <= 60) {
                build();
            } else {
                oneCall(below(100));
            }
        }
    }

    /** The same steps give the same runs each time. */
    private int below(int bound) {
        seed = seed * 6364136223846793005L + 1442695040888963407L;
        return (int) ((seed >>> 33) % bound);
    }

    private int odd() {
        return ODD[below(ODD.length)];
    }

    private int mostly(int bound) {
        return below(12) == 0 ? odd() : below(bound);
    }

    private int row() {
        int rows = naive.count(0);
        return mostly(rows == 0 ? 2 : rows);
    }

    private void both(String call, int got, int want) {
        checks.due(told + call, got, want);
    }

    /** Pads full of letters, so that the rows become long. */
    private void build() {
        if (naive.count(6) < below(65)) {
            put(letters(8));
        } else {
            both("add()", real.add(), naive.add());
        }
    }

    private long letters(int most) {
        StringBuilder text = new StringBuilder();
        int length = 1 + below(most);
        for (int place = 0; place < length; place++) {
            text.append(SIGNS.charAt(26 - below(letters)));
        }
        return Checks.packed(text.toString());
    }

    private void put(long characters) {
        both("put(" + characters + ")", real.put(characters), naive.put(characters));
    }

    private long oddCharacters() {
        switch (below(6)) {
            case 0:
                return 0;
            case 1:
                return letters(8) << 8;
            case 2:
                return letters(8) & ~(255L << 8 * below(8));
            case 3:
                return letters(8) | 128L << 8 * below(8);
            case 4:
                return Checks.packed("" + (char) (30 + below(100)) + (char) (30 + below(100)));
            default:
                return ((long) odd() << 32) ^ odd();
        }
    }

    private void oneCall(int which) {
        if (which < 45) {
            changing(which);
        } else {
            asking(which);
        }
    }

    private void changing(int which) {
        if (which < 12) {
            put(below(10) == 0 ? oddCharacters() : letters(8));
        } else if (which < 18) {
            both("add()", real.add(), naive.add());
        } else if (which < 22) {
            int row = row();
            both("append(" + row + ")", real.append(row), naive.append(row));
        } else if (which < 27) {
            int row = row();
            int place = mostly(20);
            int sign = below(3) == 0 ? mostly(27) : 26 - below(letters);
            both("change(" + row + ", " + place + ", " + sign + ")", real.change(row, place, sign), naive.change(row, place, sign));
        } else if (which < 30) {
            int row = row();
            both("remove(" + row + ")", real.remove(row), naive.remove(row));
        } else if (which < 36) {
            setting();
        } else if (which < 38) {
            both("wipe()", real.wipe(), naive.wipe());
        } else if (which < 41) {
            both("undo()", real.undo(), naive.undo());
        } else if (which < 43) {
            int slot = mostly(2);
            both("save(" + slot + ")", real.save(slot), naive.save(slot));
        } else {
            int slot = mostly(2);
            both("restore(" + slot + ")", real.restore(slot), naive.restore(slot));
        }
    }

    private void setting() {
        int setting = mostly(4);
        int value = setting == 0 ? mostly(5) : setting == 1 ? mostly(34) : mostly(1000003);
        both("set(" + setting + ", " + value + ")", real.set(setting, value), naive.set(setting, value));
    }

    private void asking(int which) {
        int row = row();
        int other = row();
        if (which < 52) {
            int what = mostly(4);
            both("ofRow(" + row + ", " + what + ")", real.ofRow(row, what), naive.ofRow(row, what));
        } else if (which < 55) {
            int place = mostly(64);
            both("sign(" + row + ", " + place + ")", real.sign(row, place), naive.sign(row, place));
        } else if (which < 62) {
            int place = mostly(10);
            int what = mostly(3);
            both("sample(" + row + ", " + place + ", " + what + ")", real.sample(row, place, what), naive.sample(row, place, what));
        } else if (which < 66) {
            int what = mostly(8);
            both("count(" + what + ")", real.count(what), naive.count(what));
        } else if (which < 86) {
            askingOfTwo(which, row, other, mostly(5));
        } else {
            askingOfAll(which, row);
        }
    }

    private void askingOfTwo(int which, int row, int other, int what) {
        String given = "(" + row + ", " + other + ", " + what + ")";
        if (which < 76) {
            both("told" + given, real.told(row, other, what), naive.told(row, other, what));
        } else if (which < 80) {
            both("exact" + given, real.exact(row, other, what), naive.exact(row, other, what));
        } else {
            both("inside" + given, real.inside(row, other, what), naive.inside(row, other, what));
        }
    }

    private void askingOfAll(int which, int row) {
        if (which < 89) {
            int what = mostly(2);
            both("nearest(" + row + ", " + what + ")", real.nearest(row, what), naive.nearest(row, what));
        } else if (which < 91) {
            both("candidates(" + row + ")", real.candidates(row), naive.candidates(row));
        } else if (which < 94) {
            int what = mostly(3);
            both("worst(" + what + ")", real.worst(what), naive.worst(what));
        } else if (which < 95) {
            int limit = mostly(below(2) == 0 ? 10001 : 1000);
            both("bestKept(" + limit + ")", real.bestKept(limit), naive.bestKept(limit));
        } else if (which < 98) {
            int limit = mostly(10001);
            both("group(" + row + ", " + limit + ")", real.group(row, limit), naive.group(row, limit));
        } else {
            both("fault()", real.fault(), naive.fault());
        }
    }
}
