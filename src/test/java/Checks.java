/** Counts the answers that are not the ones that are due, and makes objects and pads for the tests. */
final class Checks {
    static final String ALPHABET = "abcdefghijklmnopqrstuvwxyz.";
    static final String SIXTEEN = "abcdefghijklmnop";
    static final String FULL = SIXTEEN + SIXTEEN + SIXTEEN + SIXTEEN;

    private int asked = 0;
    private int wrong = 0;
    private String about = "";

    /** The sentence of the document that the checks from here on are about. */
    void about(String sentence) {
        about = "[" + sentence + "] ";
    }

    void due(String call, long got, long want) {
        asked++;
        if (got != want) {
            wrong++;
            System.out.println(about + call + " answered " + got + ", due is " + want);
        }
    }

    void holds(String what, boolean right) {
        asked++;
        if (!right) {
            wrong++;
            System.out.println(about + "does not hold: " + what);
        }
    }

    /** That a row has the signs of a text, and no sign before or behind them. */
    void rowIs(String when, WordSamples samples, int row, String text) {
        due(when + ": signs of row " + row, samples.ofRow(row, 0), text.length());
        due(when + ": sign before row " + row, samples.sign(row, -1), -1);
        for (int place = 0; place < text.length(); place++) {
            due(when + ": sign(" + row + ", " + place + ")", samples.sign(row, place), ALPHABET.indexOf(text.charAt(place)));
        }
        due(when + ": sign behind row " + row, samples.sign(row, text.length()), -1);
    }

    int wrong() {
        return wrong;
    }

    /** Tells the result, and ends the program with exit code 1 if some answer was wrong. */
    void end(String name) {
        System.out.println(name + ": " + asked + " checks, " + wrong + " not as due");
        if (wrong != 0 || asked == 0) {
            System.exit(1);
        }
    }

    /** The number that put() takes for a text of 1 to 8 characters. */
    static long packed(String text) {
        long number = 0;
        for (int place = 0; place < text.length(); place++) {
            number = number << 8 | text.charAt(place);
        }
        return number;
    }

    static void put(WordSamples samples, String text) {
        for (int from = 0; from < text.length(); from += 8) {
            samples.put(packed(text.substring(from, Math.min(text.length(), from + 8))));
        }
    }

    static int add(WordSamples samples, String text) {
        put(samples, text);
        return samples.add();
    }

    /** An object whose words are letters, in the order of the alphabet: their values are 0 for a to 26 for the dot. */
    static WordSamples letters(int kept, String... rows) {
        return words(1, kept, rows);
    }

    /** An object whose words have their codes as values. */
    static WordSamples words(int width, int kept, String... rows) {
        WordSamples samples = new WordSamples();
        samples.set(WordSamples.WIDTH, width);
        samples.set(WordSamples.KEPT, kept);
        samples.set(WordSamples.FACTOR, 1);
        samples.set(WordSamples.OFFSET, 0);
        for (String row : rows) {
            add(samples, row);
        }
        return samples;
    }
}
