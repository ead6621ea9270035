import java.io.IOException;
import java.lang.management.ManagementFactory;
import java.lang.reflect.Constructor;
import java.lang.reflect.Field;
import java.lang.reflect.Method;
import java.lang.reflect.Modifier;
import java.nio.file.Files;
import java.nio.file.Path;
import java.util.Arrays;
import java.util.Map;
import java.util.Set;
import java.util.TreeMap;
import java.util.TreeSet;
import java.util.regex.Matcher;
import java.util.regex.Pattern;

/** The face of the class, the rules of LANGUAGE.md that a test can see, and what the calls allocate. */
public final class FaceTests {
    private static final String SOURCE = "src/main/java/WordSamples.java";
    private static final Set<String> METHODS = Set.of(
        "set(int,int)", "add()", "append(int)", "change(int,int,int)", "remove(int)", "ofRow(int,int)", "sign(int,int)",
        "sample(int,int,int)", "count(int)", "told(int,int,int)", "exact(int,int,int)", "inside(int,int,int)",
        "nearest(int,int)", "candidates(int)", "worst(int)", "bestKept(int)", "group(int,int)", "put(long)", "wipe()",
        "fault()", "undo()", "save(int)", "restore(int)");
    private static final Map<String, Integer> CONSTANTS = Map.of(
        "NO_SUCH", -1, "BAD_VALUE", -2, "BAD_TEXT", -3, "TOO_MANY", -4, "NOT_POSSIBLE", -5, "NONE", -6,
        "WIDTH", 0, "KEPT", 1, "FACTOR", 2, "OFFSET", 3);

    private final Checks checks = new Checks();

    public static void main(String[] args) throws Exception {
        FaceTests tests = new FaceTests();
        tests.face();
        tests.constants();
        tests.privateNames();
        tests.nestedClasses();
        tests.source();
        tests.allocations();
        tests.checks.end("FaceTests");
    }

    private static String parameters(Method method) {
        StringBuilder all = new StringBuilder();
        for (Class<?> type : method.getParameterTypes()) {
            all.append(all.length() == 0 ? "" : ",").append(type.getName());
        }
        return method.getName() + "(" + all + ")";
    }

    private void face() {
        Class<?> face = WordSamples.class;
        checks.holds("the class is public and final", Modifier.isPublic(face.getModifiers()) && Modifier.isFinal(face.getModifiers()));
        checks.holds("the class extends nothing", face.getSuperclass() == Object.class && face.getInterfaces().length == 0);
        Constructor<?>[] makers = face.getDeclaredConstructors();
        checks.holds("one public constructor", makers.length == 1 && makers[0].getParameterCount() == 0
            && Modifier.isPublic(makers[0].getModifiers()));
        Set<String> found = new TreeSet<>();
        for (Method method : face.getDeclaredMethods()) {
            if (!Modifier.isPrivate(method.getModifiers()) && !method.isSynthetic()) {
                found.add(parameters(method));
                checks.holds(method + " is public, of the object, and answers an int", Modifier.isPublic(method.getModifiers())
                    && !Modifier.isStatic(method.getModifiers()) && method.getReturnType() == int.class);
            }
        }
        checks.holds("the methods of the document and no others: " + found, found.equals(METHODS));
    }

    private void constants() throws IllegalAccessException {
        Map<String, Integer> found = new TreeMap<>();
        for (Field field : WordSamples.class.getDeclaredFields()) {
            int modifiers = field.getModifiers();
            checks.holds(field + ": what is static is final", !Modifier.isStatic(modifiers) || Modifier.isFinal(modifiers));
            if (!Modifier.isPrivate(modifiers)) {
                checks.holds(field + " is a public constant", Modifier.isPublic(modifiers) && Modifier.isStatic(modifiers)
                    && field.getType() == int.class);
                found.put(field.getName(), field.getInt(null));
            }
        }
        checks.holds("the constants of the document and no others: " + found, found.equals(CONSTANTS));
    }

    private void privateNames() {
        Set<String> ours = new TreeSet<>();
        METHODS.forEach(method -> ours.add(method.substring(0, method.indexOf('('))));
        for (Method method : WordSamples.class.getDeclaredMethods()) {
            checks.holds(method + " bears no public name", Modifier.isPublic(method.getModifiers()) || !ours.contains(method.getName()));
        }
        for (Class<?> inside : WordSamples.class.getDeclaredClasses()) {
            for (Method method : inside.getDeclaredMethods()) {
                checks.holds(method + " bears no public name", !ours.contains(method.getName()));
                checks.holds(method + " takes seven parameters at most", method.getParameterCount() <= 7);
            }
        }
    }

    private void nestedClasses() {
        Class<?>[] inside = WordSamples.class.getDeclaredClasses();
        checks.holds("twelve classes at most", inside.length + 1 <= 12);
        for (Class<?> each : inside) {
            checks.holds(each + " is static", Modifier.isStatic(each.getModifiers()));
            checks.holds(each + " is not public or protected", !Modifier.isPublic(each.getModifiers())
                && !Modifier.isProtected(each.getModifiers()));
            long fields = Arrays.stream(each.getDeclaredFields()).filter(field -> !Modifier.isStatic(field.getModifiers())).count();
            checks.holds(each + " has twenty fields at most", fields <= 20);
        }
    }

    private void source() throws IOException {
        String text = Files.readString(Path.of(SOURCE));
        checks.holds("signs 1 to 126 alone", text.chars().allMatch(sign -> sign > 0 && sign < 127));
        String code = text.replaceAll("(?s)/\\*.*?\\*/", "").replaceAll("//[^\n]*", "");
        String[] words = {
            "throw", "throws", "try", "catch", "finally", "synchronized", "assert", "import", "package", "instanceof", "native",
            "volatile", "transient", "protected", "Random", "Thread", "Object", "Class", "hashCode", "equals", "currentTimeMillis",
            "nanoTime", "NaN", "double", "float", "String", "println", "exit", "\\w+Exact", "\\w+Exception"
        };
        for (String word : words) {
            checks.holds("no " + word, !Pattern.compile("\\b" + word + "\\b").matcher(code).find());
        }
        checks.holds("no lambda and no method reference", !code.contains("->") && !code.contains("::"));
        checks.holds("no text", !code.contains("\""));
        Matcher library = Pattern.compile("\\b([A-Z][a-z]+)\\.(\\w+)").matcher(code);
        while (library.find()) {
            String call = library.group();
            checks.holds("of the library: " + call, Set.of("System.arraycopy", "Math.min", "Math.max", "Math.abs").contains(call));
        }
        int longest = 0;
        for (String method : code.split("\n    (?:    )?}\n")) {
            longest = Math.max(longest, method.split("\n").length);
        }
        checks.holds("no method above sixty lines: " + longest, longest <= 60);
    }

    /** The room of one run is small: only the constructor makes objects. */
    private void allocations() {
        com.sun.management.ThreadMXBean threads = (com.sun.management.ThreadMXBean) ManagementFactory.getThreadMXBean();
        long thread = Thread.currentThread().getId();
        manyCalls(tenFullRows());
        WordSamples samples = tenFullRows();
        long before = threads.getThreadAllocatedBytes(thread);
        manyCalls(samples);
        long made = threads.getThreadAllocatedBytes(thread) - before;
        checks.holds("the calls make next to nothing: " + made + " bytes", made < 1000);
    }

    /** 90 calls of the 512 that an object is used for. */
    private static WordSamples tenFullRows() {
        WordSamples samples = new WordSamples();
        for (int row = 0; row < 10; row++) {
            for (int part = 0; part < 8; part++) {
                samples.put(0x6162636465666768L + 0x101L * ((row + part) % 9));
            }
            samples.add();
        }
        return samples;
    }

    /** 420 calls more. */
    private static void manyCalls(WordSamples samples) {
        for (int time = 0; time < 5; time++) {
            for (int row = 0; row < 10; row++) {
                samples.change(row, row + time, time % 27);
                samples.nearest(row, 0);
                samples.nearest(row, 1);
                samples.candidates(row);
                samples.group(row, 5000);
                samples.told(row, 9 - row, 4);
                samples.sample(row, 7, 2);
            }
            samples.put(0x616263L);
            samples.append(9);
            samples.fault();
            samples.wipe();
            samples.worst(2);
            samples.bestKept(0);
            samples.count(5);
            samples.save(0);
            samples.remove(9);
            samples.restore(0);
            samples.undo();
            samples.undo();
            samples.exact(0, 1, 2);
            samples.set(time % 4, 1 + time % 4);
        }
    }
}
