import java.io.IOException;
import java.nio.file.Files;
import java.nio.file.Path;
import java.util.List;
import java.util.stream.Collectors;

/** That README.md shows the example that stands here, that its answers are right, and that it names each method. */
public final class ReadmeTests {
    private static final String OWN = "src/test/java/ReadmeTests.java";

    private final Checks checks = new Checks();

    public static void main(String[] args) throws IOException {
        ReadmeTests tests = new ReadmeTests();
        String page = Files.readString(Path.of("README.md"));
        tests.answersOfTheExample();
        tests.exampleStandsInThePage(page);
        tests.pageNamesAllOfTheFace(page);
        tests.checks.end("ReadmeTests");
    }

    private void answersOfTheExample() {
        checks.about("README.md: the example");
        // the example
        WordSamples samples = new WordSamples();
        samples.put(0x62616e616e61L);                    // "banana"
        int one = samples.add();                         // 0, the number of the row
        samples.put(0x616e616e6173L);                    // "ananas"
        int other = samples.add();                       // 1
        samples.set(WordSamples.KEPT, 2);                // samples of two words; answers 8, the value before
        int told = samples.told(one, other, 2);          // 5000: the share as the samples tell it, 1 word of 2
        int exact = samples.exact(one, other, 2);        // 5000: the true one, 2 words of 4
        int least = samples.told(one, other, 3);         // 2000: the true one is surely not smaller
        int most = samples.told(one, other, 4);          // 5000: and surely not greater
        int none = samples.told(one, 2, 2);              // NO_SUCH: there is no row 2
        samples.undo();                                  // KEPT is 8 again; answers 2, the changes that are left
        // the end of the example
        int[] got = {one, other, told, exact, least, most, none, samples.count(2), samples.count(7)};
        int[] wants = {0, 1, 5000, 5000, 2000, 5000, WordSamples.NO_SUCH, 8, 2};
        for (int place = 0; place < wants.length; place++) {
            checks.due("answer " + place, got[place], wants[place]);
        }
        checks.due("set(KEPT, 2)", samples.set(WordSamples.KEPT, 2), 8);
        checks.due("undo()", samples.undo(), 2);
    }

    private static List<String> linesBetween(String text, String first, String last) {
        List<String> lines = text.lines().map(String::strip).collect(Collectors.toList());
        int from = lines.indexOf(first);
        int to = from + lines.subList(from, lines.size()).indexOf(last);
        return lines.subList(from + 1, to);
    }

    private void exampleStandsInThePage(String page) throws IOException {
        List<String> ours = linesBetween(Files.readString(Path.of(OWN)), "// the example", "// the end of the example");
        checks.holds("the page shows the example of " + OWN, linesBetween(page, "```java", "```").equals(ours));
    }

    private void pageNamesAllOfTheFace(String page) {
        checks.about("README.md");
        for (var method : WordSamples.class.getDeclaredMethods()) {
            if (java.lang.reflect.Modifier.isPublic(method.getModifiers())) {
                checks.holds("it tells of " + method.getName(), page.contains("`" + method.getName() + "("));
            }
        }
        for (var field : WordSamples.class.getFields()) {
            checks.holds("it tells of " + field.getName(), page.contains("`" + field.getName() + "`"));
        }
    }
}
