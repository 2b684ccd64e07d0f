import java.io.IOException;
import java.lang.reflect.Method;
import java.lang.reflect.Modifier;
import java.nio.file.Files;
import java.nio.file.Path;
import java.util.ArrayList;
import java.util.Arrays;
import java.util.List;
import java.util.Map;
import java.util.Set;
import java.util.TreeMap;
import java.util.TreeSet;
import java.util.function.Supplier;
import java.util.regex.Matcher;
import java.util.regex.Pattern;
import java.util.stream.Stream;

/**
 * "README.md says how to make an object and call it, what the calls answer where they refuse, and how to run the tests; what it says
 * must be so." (Run where README.md lies.)
 */
public final class ReadmeTest {
    private static final Pattern CALL = Pattern.compile("x\\.(\\w+)\\((.*)\\); +// (-?\\d+)(:.*)?");
    private static final Pattern NAMED = Pattern.compile("`([^`]*)`");
    private static final Pattern NUMBER = Pattern.compile("-\\d+");
    private static final Pattern A_FILE = Pattern.compile("(?:\\.ci|src)/[\\w./]*\\w");
    private static final int[] EDGES = {-1, 0, 1, 2, 3, 4, 5, 6, 7, 9, 10, 11, 12, 15, 16, 20, 21, 40, 41, 60, 99, 100, 256, 10000, 100000};
    private static final int[] FEW = {-1, 0, 1, 3, 4, 6, 7, 41, 256};
    /** So many calls are asked of one object, which is used for 512 at most. */
    private static final int CALLS = 150;

    private static final Map<String, Method> FACE = new TreeMap<>();

    public static void main(String[] args) throws Exception {
        for (Method m : SomebodyElseTonight.class.getDeclaredMethods()) {
            if (Modifier.isPublic(m.getModifiers())) FACE.put(m.getName(), m);
        }
        List<String> page = Files.readAllLines(Path.of("README.md"));
        examples(page);
        refusals(page);
        names(String.join("\n", page));
        Due.end("ReadmeTest");
    }

    /** "how to make an object and call it": each example answers what stands behind its calls. */
    private static void examples(List<String> page) throws Exception {
        SomebodyElseTonight x = null;
        int examples = 0;
        Set<String> called = new TreeSet<>();
        for (String line : page) {
            if (line.equals("SomebodyElseTonight x = new SomebodyElseTonight();")) {
                x = new SomebodyElseTonight();
                examples++;
            }
            if (!line.startsWith("x.")) continue;
            Matcher call = CALL.matcher(line);
            Due.is("a call and its answer, README: " + line, call.matches() ? 1 : 0, 1);
            if (!call.matches() || x == null) continue;
            Method m = FACE.get(call.group(1));
            Due.is("README: " + call.group(1) + " is of the face", m == null ? 0 : 1, 1);
            if (m == null) continue;
            Due.is("README: " + line, asked(x, m, numbers(call.group(2))), Long.parseLong(call.group(3)));
            called.add(m.getName());
        }
        Due.is("examples in README", examples, count(page, "```java"));
        Due.is("README calls few of the face", called.size() < 20 ? 1 : 0, 0);
    }

    private static int count(List<String> page, String line) {
        return (int) page.stream().filter(line::equals).count();
    }

    /** Arguments as they stand in a call: numbers and signs in ''. */
    private static Object[] numbers(String arguments) {
        List<Object> all = new ArrayList<>();
        Matcher m = Pattern.compile("'(.)'|-?\\d+").matcher(arguments);
        while (m.find()) all.add(m.group(1) == null ? Integer.parseInt(m.group()) : (int) m.group(1).charAt(0));
        return all.toArray();
    }

    private static long asked(SomebodyElseTonight x, Method m, Object... args) throws Exception {
        return ((Number) m.invoke(x, args)).longValue();
    }

    /** "what the calls answer where they refuse": what is below 0 in each of some states is what its row says. */
    private static void refusals(List<String> page) throws Exception {
        Set<String> rows = new TreeSet<>();
        Map<String, String> table = new TreeMap<>();
        boolean below = false;
        for (String line : page) {
            if (line.startsWith("| call |")) below = true;
            else if (!line.startsWith("|")) below = false;
            else if (below && !line.startsWith("|---")) {
                String[] cells = line.split("\\|");
                for (String call : namedIn(cells[1])) {
                    Due.is("README has " + call + " in two rows", rows.add(call) ? 1 : 0, 1);
                    table.put(call, cells[2] + "|" + (cells.length > 3 ? cells[3] : ""));
                }
            }
        }
        Due.is("README's table is the face, " + rows, rows.equals(FACE.keySet()) ? 1 : 0, 1);
        for (Map.Entry<String, String> row : table.entrySet()) {
            Method m = FACE.get(row.getKey());
            if (m == null) continue;
            Set<Long> seen = answersBelowZero(m);
            Set<Long> told = new TreeSet<>();
            Matcher number = NUMBER.matcher(row.getValue());
            while (number.find()) told.add(Long.parseLong(number.group()));
            Due.is("README: " + m.getName() + " refuses by " + told + ", seen " + seen, told.equals(seen) ? 1 : 0, 1);
        }
    }

    private static Set<Long> answersBelowZero(Method m) throws Exception {
        List<Object[]> all = new ArrayList<>();
        rows(m, new Object[m.getParameterCount()], 0, m.getParameterCount() > 3 ? FEW : EDGES, all);
        Set<Long> seen = new TreeSet<>();
        for (Supplier<SomebodyElseTonight> state : List.<Supplier<SomebodyElseTonight>>of(SomebodyElseTonight::new, ReadmeTest::three, ReadmeTest::full)) {
            for (int from = 0; from < all.size(); from += CALLS) {
                SomebodyElseTonight x = state.get();
                for (Object[] args : all.subList(from, Math.min(all.size(), from + CALLS))) {
                    // "how much, of goal 2" is told in words.
                    if (m.getName().equals("best") && Arrays.equals(args, new Object[] {2, 1})) continue;
                    long answer = asked(x, m, args);
                    // "-100 and less"
                    if (answer < 0) seen.add(m.getName().equals("text") && answer < -100 ? -100 : answer);
                }
            }
        }
        return seen;
    }

    private static void rows(Method m, Object[] args, int i, int[] edges, List<Object[]> all) {
        if (i == args.length) {
            all.add(args.clone());
            return;
        }
        // Of feed's five bytes the last one is enough.
        boolean left = m.getName().equals("feed") && i > 0 && i < 5;
        for (int v : left ? new int[] {32} : edges) {
            args[i] = v;
            rows(m, args, i + 1, edges, all);
        }
    }

    /** Three guests, a fault on the tape, sheets of bytes, shorts and ints; 3 is missing. */
    private static SomebodyElseTonight three() {
        SomebodyElseTonight x = Due.club(13, 27, 24, 228, 41, 99);
        Due.play(x, 1, 0, 1);
        Due.feed(x, "plays 7; costs 8; ow");
        Due.tell(x, 0, 0, 0, 3, 1, 1, 0);
        x.sheet(1, 1, 7);
        x.sheet(2, 0, 6);
        return x;
    }

    /** Six guests, six texts, a tape of 160 bytes, the last night, sheets that tell something. */
    private static SomebodyElseTonight full() {
        SomebodyElseTonight x = Due.club(13, 27, 24, 228, 3, 0, 34, 11, 41, 77, 55, 1);
        for (int t = 1; t < 6; t++) Due.type(x, "plays 5" + t + ";costs " + t + ";owes 1;");
        for (int n = 0; n < 99; n++) x.live();
        for (int n = 0; n < 32; n++) x.feed(5, 'a', 'b', 'c', 'd', 'e');
        for (int s = 0; s < 4; s++) x.film(s, s);
        return x;
    }

    private static List<String> namedIn(String text) {
        List<String> names = new ArrayList<>();
        Matcher m = NAMED.matcher(text);
        while (m.find()) names.add(m.group(1));
        return names;
    }

    /** "how to run the tests; what it says must be so": files that it names are there, tests and classes that are there it names. */
    private static void names(String page) throws IOException {
        Matcher file = A_FILE.matcher(page);
        while (file.find()) {
            String name = file.group();
            Due.is("README names " + name + ", which is there", Files.exists(Path.of(name)) ? 1 : 0, 1);
        }
        Due.is(".ci/run can be run", Files.isExecutable(Path.of(".ci/run")) ? 1 : 0, 1);
        try (Stream<Path> tests = Files.list(Path.of("src/test/java"))) {
            for (Path test : tests.toList()) {
                String name = test.getFileName().toString().replace(".java", "");
                Due.is("README names " + name, page.contains("`" + name + "`") ? 1 : 0, 1);
            }
        }
        for (String name : namedIn(page)) {
            if (!name.endsWith("Test")) continue;
            Due.is("README names " + name + ", which is there", Files.exists(Path.of("src/test/java", name + ".java")) ? 1 : 0, 1);
        }
        for (Class<?> inside : SomebodyElseTonight.class.getDeclaredClasses()) {
            Due.is("README names " + inside.getSimpleName(), page.contains("`" + inside.getSimpleName() + "`") ? 1 : 0, 1);
        }
        for (String constant : List.of("NONE", "BAD", "STATE", "FULL", "NO")) {
            Due.is("README tells " + constant, page.contains("| " + constantOf(constant) + " | `" + constant + "` |") ? 1 : 0, 1);
        }
    }

    private static long constantOf(String name) {
        try {
            return ((Number) SomebodyElseTonight.class.getField(name).get(null)).longValue();
        } catch (ReflectiveOperationException e) {
            return 0;
        }
    }
}
