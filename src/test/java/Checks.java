/** Counts the answers that are not the ones that are due, and puts texts into the pad. */
final class Checks {
    private int asked = 0;
    private int wrong = 0;

    void due(String call, long got, long want) {
        asked++;
        if (got != want) {
            wrong++;
            System.out.println(call + " answered " + got + ", due is " + want);
        }
    }

    void holds(String what, boolean right) {
        asked++;
        if (!right) {
            wrong++;
            System.out.println("does not hold: " + what);
        }
    }

    int wrong() {
        return wrong;
    }

    /** Tells the result, and ends the program with exit code 1 if some answer was wrong. */
    void end(String name) {
        System.out.println(name + ": " + asked + " checks, " + wrong + " not as due");
        if (wrong != 0 || asked == 0) {
            System.exit(1);
        }
    }

    /** The number that put() takes for a text of 1 to 8 characters. */
    static long packed(String text) {
        long number = 0;
        for (int place = 0; place < text.length(); place++) {
            number = number << 8 | text.charAt(place);
        }
        return number;
    }

    static void put(WordSamples samples, String text) {
        for (int from = 0; from < text.length(); from += 8) {
            samples.put(packed(text.substring(from, Math.min(text.length(), from + 8))));
        }
    }

    static int add(WordSamples samples, String text) {
        put(samples, text);
        return samples.add();
    }
}
