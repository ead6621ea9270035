/** What an object holds, as a text. Objects that hold the same give the same text. */
final class States {
    private States() {
    }

    /** The settings, the rows and the length of the pad, and how many changes can be undone; nothing changes. */
    static String seen(WordSamples samples) {
        StringBuilder text = new StringBuilder();
        for (int what = 0; what < 8; what++) {
            text.append(samples.count(what)).append(' ');
        }
        int rows = samples.count(0);
        for (int row = 0; row < rows; row++) {
            text.append('/');
            int signs = samples.ofRow(row, 0);
            for (int place = 0; place < signs; place++) {
                text.append(Checks.ALPHABET.charAt(samples.sign(row, place)));
            }
        }
        return text.toString();
    }

    /** All that there is: also the history, the slots and the signs of the pad. The object is used up then. */
    static String whole(WordSamples samples) {
        StringBuilder text = new StringBuilder(seen(samples));
        text.append(" fault ").append(samples.fault());
        for (int left = samples.undo(); left >= 0; left = samples.undo()) {
            text.append("\nundone ").append(seen(samples));
        }
        for (int slot = 0; slot < 2; slot++) {
            text.append("\nslot ").append(samples.restore(slot)).append(": ").append(seen(samples));
        }
        if (samples.count(0) == 10) {
            samples.remove(0);
        }
        return text.append("\npad ").append(samples.add()).append(": ").append(seen(samples)).toString();
    }
}
