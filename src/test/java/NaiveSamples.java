import java.math.BigInteger;
import java.util.ArrayDeque;
import java.util.ArrayList;
import java.util.Collection;
import java.util.Deque;
import java.util.HashSet;
import java.util.List;
import java.util.Set;
import java.util.TreeMap;
import java.util.TreeSet;

/** The document once more, in its words, with texts and sets: what ModelTests compares the class with. */
final class NaiveSamples {
    private static final int NO_SUCH = -1, BAD_VALUE = -2, BAD_TEXT = -3, TOO_MANY = -4, NOT_POSSIBLE = -5, NONE = -6;
    private static final String ALPHABET = "abcdefghijklmnopqrstuvwxyz.";
    private static final int[][] RANGES = {{1, 4}, {1, 32}, {1, 1000002}, {0, 1000002}};

    private record State(List<Integer> settings, List<String> rows) {
    }

    private State now = new State(List.of(3, 8, 7919, 104729), List.of());
    private final Deque<State> history = new ArrayDeque<>();
    private final State[] slots = new State[2];
    private String pad = "";

    // ---- words, samples, shares

    private List<String> parts(String row) {
        List<String> all = new ArrayList<>();
        int width = now.settings.get(0);
        for (int end = width; end <= row.length(); end++) {
            all.add(row.substring(end - width, end));
        }
        return all;
    }

    private Set<String> words(int row) {
        return new HashSet<>(parts(now.rows.get(row)));
    }

    private static int code(String word) {
        int code = 0;
        for (char sign : word.toCharArray()) {
            code = 27 * code + ALPHABET.indexOf(sign);
        }
        return code;
    }

    private int value(String word) {
        BigInteger value = BigInteger.valueOf(code(word)).multiply(BigInteger.valueOf(now.settings.get(2)));
        return value.add(BigInteger.valueOf(now.settings.get(3))).mod(BigInteger.valueOf(1000003)).intValue();
    }

    private List<String> least(Collection<String> words, int kept) {
        TreeMap<Integer, String> byValue = new TreeMap<>();
        for (String word : words) {
            byValue.put(value(word), word);
        }
        List<String> all = new ArrayList<>(byValue.values());
        return all.subList(0, Math.min(kept, all.size()));
    }

    private int kept() {
        return now.settings.get(1);
    }

    private List<String> sampleOf(int row) {
        return least(words(row), kept());
    }

    private static <T> Set<T> union(Set<T> one, Set<T> other) {
        Set<T> all = new HashSet<>(one);
        all.addAll(other);
        return all;
    }

    private static <T> Set<T> common(Collection<T> one, Collection<T> other) {
        Set<T> both = new HashSet<>(one);
        both.retainAll(other);
        return both;
    }

    private static int down(int part, int whole) {
        return whole == 0 ? 0 : (int) Math.floor(10000L * part / (double) whole + 1e-7);
    }

    private static int up(int part, int whole) {
        return whole == 0 ? 0 : (int) Math.ceil(10000L * part / (double) whole - 1e-7);
    }

    private Set<String> sharedWords(int row, int other, int kept) {
        return common(common(commonSample(row, other, kept), words(row)), words(other));
    }

    private List<String> commonSample(int row, int other, int kept) {
        return least(union(words(row), words(other)), kept);
    }

    private int rest(int row, int beside) {
        Set<String> rest = words(row);
        rest.removeAll(commonSample(row, beside, kept()));
        return rest.size();
    }

    private int leastCommon(int row, int other) {
        return sharedWords(row, other, kept()).size();
    }

    private int mostCommon(int row, int other) {
        return leastCommon(row, other) + Math.min(rest(row, other), rest(other, row));
    }

    private int toldShare(int row, int other, int kept) {
        return down(sharedWords(row, other, kept).size(), commonSample(row, other, kept).size());
    }

    private int trueShare(int row, int other) {
        return down(common(words(row), words(other)).size(), union(words(row), words(other)).size());
    }

    private int lower(int row, int other) {
        int c = leastCommon(row, other);
        return down(c, words(row).size() + words(other).size() - c);
    }

    private int upper(int row, int other) {
        int c = mostCommon(row, other);
        return up(c, words(row).size() + words(other).size() - c);
    }

    // ---- changes

    private void record() {
        history.addLast(now);
        if (history.size() > 6) {
            history.removeFirst();
        }
    }

    private void nowWithRow(int row, String text) {
        List<String> rows = new ArrayList<>(now.rows);
        if (row == rows.size()) {
            rows.add(text);
        } else {
            rows.set(row, text);
        }
        record();
        now = new State(now.settings, List.copyOf(rows));
    }

    private boolean missing(int row) {
        return row < 0 || row >= now.rows.size();
    }

    private boolean missing(int row, int place) {
        return missing(row) || place < 0 || place >= now.rows.get(row).length();
    }

    int set(int setting, int value) {
        if (setting < 0 || setting > 3 || value < RANGES[setting][0] || value > RANGES[setting][1]) {
            return BAD_VALUE;
        }
        record();
        List<Integer> settings = new ArrayList<>(now.settings);
        int previous = settings.set(setting, value);
        now = new State(List.copyOf(settings), now.rows);
        return previous;
    }

    int add() {
        if (fault() != NONE) {
            return BAD_TEXT;
        }
        if (now.rows.size() == 10) {
            return TOO_MANY;
        }
        nowWithRow(now.rows.size(), pad);
        pad = "";
        return now.rows.size() - 1;
    }

    int append(int row) {
        if (missing(row)) {
            return NO_SUCH;
        }
        if (fault() != NONE) {
            return BAD_TEXT;
        }
        String text = now.rows.get(row) + pad;
        if (text.length() > 64) {
            return TOO_MANY;
        }
        nowWithRow(row, text);
        pad = "";
        return text.length();
    }

    int change(int row, int place, int sign) {
        if (missing(row, place)) {
            return NO_SUCH;
        }
        if (sign < 0 || sign > 26) {
            return BAD_VALUE;
        }
        int previous = sign(row, place);
        String text = now.rows.get(row);
        nowWithRow(row, text.substring(0, place) + ALPHABET.charAt(sign) + text.substring(place + 1));
        return previous;
    }

    int remove(int row) {
        if (missing(row)) {
            return NO_SUCH;
        }
        record();
        List<String> rows = new ArrayList<>(now.rows);
        rows.remove(row);
        now = new State(now.settings, List.copyOf(rows));
        return rows.size();
    }

    // ---- what there is

    int ofRow(int row, int what) {
        if (missing(row)) {
            return NO_SUCH;
        }
        return switch (what) {
            case 0 -> now.rows.get(row).length();
            case 1 -> words(row).size();
            case 2 -> sampleOf(row).size();
            case 3 -> sampleOf(row).stream().mapToInt(this::value).max().orElse(NONE);
            default -> BAD_VALUE;
        };
    }

    int sign(int row, int place) {
        return missing(row, place) ? NO_SUCH : ALPHABET.indexOf(now.rows.get(row).charAt(place));
    }

    int sample(int row, int place, int what) {
        if (missing(row) || place < 0 || place >= sampleOf(row).size()) {
            return NO_SUCH;
        }
        String word = sampleOf(row).get(place);
        return switch (what) {
            case 0 -> value(word);
            case 1 -> code(word);
            case 2 -> (int) parts(now.rows.get(row)).stream().filter(word::equals).count();
            default -> BAD_VALUE;
        };
    }

    int count(int what) {
        if (what == 5) {
            Set<String> all = new TreeSet<>();
            for (String row : now.rows) {
                all.addAll(parts(row));
            }
            return all.size();
        }
        return switch (what) {
            case 0 -> now.rows.size();
            case 1, 2, 3, 4 -> now.settings.get(what - 1);
            case 6 -> pad.length();
            case 7 -> history.size();
            default -> BAD_VALUE;
        };
    }

    // ---- two rows

    int told(int row, int other, int what) {
        if (missing(row) || missing(other)) {
            return NO_SUCH;
        }
        return switch (what) {
            case 0 -> commonSample(row, other, kept()).size();
            case 1 -> leastCommon(row, other);
            case 2 -> toldShare(row, other, kept());
            case 3 -> lower(row, other);
            case 4 -> upper(row, other);
            default -> BAD_VALUE;
        };
    }

    int exact(int row, int other, int what) {
        if (missing(row) || missing(other)) {
            return NO_SUCH;
        }
        return switch (what) {
            case 0 -> union(words(row), words(other)).size();
            case 1 -> common(words(row), words(other)).size();
            case 2 -> trueShare(row, other);
            default -> BAD_VALUE;
        };
    }

    int inside(int row, int other, int what) {
        if (missing(row) || missing(other)) {
            return NO_SUCH;
        }
        int whole = words(row).size();
        return switch (what) {
            case 0 -> down(common(words(row), words(other)).size(), whole);
            case 1 -> down(leastCommon(row, other), whole);
            case 2 -> up(mostCommon(row, other), whole);
            default -> BAD_VALUE;
        };
    }

    // ---- all rows

    private List<Integer> othersOf(int row) {
        List<Integer> others = new ArrayList<>();
        for (int other = 0; other < now.rows.size(); other++) {
            if (other != row) {
                others.add(other);
            }
        }
        return others;
    }

    int nearest(int row, int what) {
        if (missing(row)) {
            return NO_SUCH;
        }
        if (what < 0 || what > 1) {
            return BAD_VALUE;
        }
        TreeMap<Integer, Integer> lowestByShare = new TreeMap<>();
        for (int other : othersOf(row)) {
            lowestByShare.putIfAbsent(what == 0 ? toldShare(row, other, kept()) : trueShare(row, other), other);
        }
        return lowestByShare.isEmpty() ? NONE : lowestByShare.lastEntry().getValue();
    }

    int candidates(int row) {
        if (missing(row)) {
            return NO_SUCH;
        }
        int greatest = othersOf(row).stream().mapToInt(other -> lower(row, other)).max().orElse(0);
        return othersOf(row).stream().filter(other -> upper(row, other) >= greatest).mapToInt(other -> 1 << other).sum();
    }

    int worst(int what) {
        if (what < 0 || what > 2) {
            return BAD_VALUE;
        }
        int[] found = {NONE, NONE, NONE};
        for (int row = 0; row < now.rows.size(); row++) {
            for (int other = row + 1; other < now.rows.size(); other++) {
                int far = Math.abs(toldShare(row, other, kept()) - trueShare(row, other));
                if (far > found[2]) {
                    found = new int[] {row, other, far};
                }
            }
        }
        return found[what];
    }

    int bestKept(int limit) {
        if (limit < 0 || limit > 10000) {
            return BAD_VALUE;
        }
        for (int kept = 1; kept <= 32; kept++) {
            boolean near = true;
            for (int row = 0; row < now.rows.size() && near; row++) {
                for (int other = row + 1; other < now.rows.size() && near; other++) {
                    near = Math.abs(toldShare(row, other, kept) - trueShare(row, other)) <= limit;
                }
            }
            if (near) {
                return kept;
            }
        }
        return NONE;
    }

    int group(int row, int limit) {
        if (missing(row)) {
            return NO_SUCH;
        }
        if (limit < 0 || limit > 10000) {
            return BAD_VALUE;
        }
        TreeSet<Integer> group = new TreeSet<>(List.of(row));
        for (int before = 0; before != group.size();) {
            before = group.size();
            for (int member : List.copyOf(group)) {
                for (int other : othersOf(member)) {
                    if (toldShare(member, other, kept()) >= limit) {
                        group.add(other);
                    }
                }
            }
        }
        return group.first();
    }

    // ---- the pad

    int put(long characters) {
        StringBuilder text = new StringBuilder();
        long left = characters;
        while ((left & 255) != 0) {
            text.insert(0, (char) (left & 255));
            left >>>= 8;
        }
        if (left != 0 || text.length() == 0 || text.chars().anyMatch(code -> code < 33 || code > 126)) {
            return BAD_VALUE;
        }
        if (pad.length() + text.length() > 64) {
            return TOO_MANY;
        }
        pad += text;
        return pad.length();
    }

    int wipe() {
        int length = pad.length();
        pad = "";
        return length;
    }

    int fault() {
        for (int place = 0; place < pad.length(); place++) {
            if (ALPHABET.indexOf(pad.charAt(place)) < 0) {
                return place;
            }
        }
        return pad.isEmpty() ? 0 : NONE;
    }

    // ---- undo, saving

    int undo() {
        if (history.isEmpty()) {
            return NOT_POSSIBLE;
        }
        now = history.removeLast();
        return history.size();
    }

    int save(int slot) {
        if (slot < 0 || slot > 1) {
            return BAD_VALUE;
        }
        slots[slot] = now;
        return now.rows.size();
    }

    int restore(int slot) {
        if (slot < 0 || slot > 1) {
            return BAD_VALUE;
        }
        if (slots[slot] == null) {
            return NOT_POSSIBLE;
        }
        record();
        now = slots[slot];
        return now.rows.size();
    }
}
