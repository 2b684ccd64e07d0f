import java.lang.reflect.Method;
import java.util.ArrayList;
import java.util.Comparator;
import java.util.List;
import java.util.Random;

/** Runs of calls by lot, each answered by the program and by the plain Model; the seeds are always the same. */
public final class ModelTest {
    private static final int[] EDGES = {Integer.MIN_VALUE, Integer.MIN_VALUE + 1, -100, -12, -2, -1, 0, 1, 2, 3, 4, 5, 6, 7, 9,
        10, 11, 12, 15, 16, 20, 21, 39, 40, 41, 55, 59, 60, 99, 100, 160, 255, 256, 9999, 10000, 65535, 99999, 100000,
        Integer.MAX_VALUE - 1, Integer.MAX_VALUE};
    private static final String[] WORDS = {"plays", "costs", "owes", "or", "and", "not", "more", "apart", "matter", "night",
        "often", "purse", "(", ")", ";", "+", "-", "*", "<", "=", "0", "7", "60", "9999", "10000", "00001", "x", "A", "\t", "\u00e9"};

    private final Random lot;
    private final SomebodyElseTonight x = new SomebodyElseTonight();
    private final Model model = new Model();
    private final List<String> calls = new ArrayList<>();
    private int wrong = 0;

    private ModelTest(long seed) {
        lot = new Random(seed);
    }

    public static void main(String[] args) throws Exception {
        int runs = args.length > 0 ? Integer.parseInt(args[0]) : 1000;
        int first = args.length > 1 ? Integer.parseInt(args[1]) : 0;
        Method[] face = SomebodyElseTonight.class.getDeclaredMethods();
        List<Method> open = new ArrayList<>();
        for (Method m : face) if (java.lang.reflect.Modifier.isPublic(m.getModifiers())) open.add(m);
        open.sort(Comparator.comparing(Method::getName));
        if (open.size() != 40) {
            System.out.println("the face has " + open.size() + " methods, not 40");
            System.exit(1);
        }
        for (int seed = first; seed < first + runs; seed++) {
            ModelTest t = new ModelTest(seed);
            t.run(open);
            if (t.wrong != 0) {
                System.out.println("seed " + seed + ":");
                for (String c : t.calls) System.out.println("  " + c);
                System.exit(1);
            }
        }
        System.out.println(runs + " runs are answered as by the model");
    }

    private void run(List<Method> face) throws Exception {
        int guests = lot.nextInt(9) == 0 ? 0 : 1 + lot.nextInt(7);
        for (int i = 0; i < guests; i++) call("guest", lot.nextInt(60), manners());
        boolean nights = lot.nextInt(3) == 0;
        // An object is used for 512 calls at most; a step of a run has some forty at most.
        for (int i = 0; i < 490 && wrong == 0 && calls.size() < 430; i++) {
            int kind = lot.nextInt(24);
            if (kind == 0) type(sentence());
            else if (kind == 1) tell();
            else if (kind == 2 && nights) call("live");
            else if (kind == 3) call("set", small(6), 1, small(6));
            else any(face.get(lot.nextInt(face.size())));
        }
    }

    private int manners() {
        return lot.nextBoolean() ? lot.nextInt(256) : lot.nextInt(4) * 85 ^ lot.nextInt(4) << 2 * lot.nextInt(4);
    }

    private int small(int below) {
        return lot.nextInt(12) == 0 ? EDGES[lot.nextInt(EDGES.length)] : lot.nextInt(below);
    }

    /** A method with arguments that are mostly, but not always, such as it takes. */
    private void any(Method m) throws Exception {
        int n = model.n() == 0 ? 1 : model.n();
        int pair = 10 * lot.nextInt(n) + lot.nextInt(n);
        switch (m.getName()) {
            case "feed" -> call("feed", small(6), small(256), small(256), small(256), small(256), small(256));
            case "text" -> call("text");
            case "force" -> call("force", small(model.texts.size()));
            case "asks" -> call("asks", small(3), lot.nextInt(9) == 0 ? small(70) : pair, small(4));
            case "guest" -> { if (lot.nextInt(4) == 0) call("guest", small(60), small(256)); }
            case "pair", "would" -> call(m.getName(), lot.nextInt(9) == 0 ? small(70) : pair, small(m.getName().equals("pair") ? 6 : 4));
            case "set" -> { int what = small(3); call("set", small(n), what, what == 0 ? small(256) : what == 1 ? small(n) : money()); }
            case "may" -> call("may", small(n), small(16));
            case "fits", "next" -> call(m.getName(), small(16), small(2));
            case "chain" -> call("chain", small(n), small(12));
            case "asIf" -> call("asIf", small(n), small(4), small(21));
            case "drawn" -> call("drawn", small(100000), small(4));
            case "lots" -> call("lots", small(100000));
            case "odds" -> call("odds", small(100000), small(100), small(2));
            case "chance" -> call("chance", small(n + 1), small(2));
            case "sheet" -> call("sheet", small(4), small(4) - 1, lot.nextBoolean() ? 3 * small(14) : small(41));
            case "cell" -> call("cell", small(4), small(12), lot.nextBoolean() ? small(60) : lot.nextInt());
            case "copy" -> { int from = sheet(-1); call("copy", from, small(10), sheet(from), small(10), small(12)); }
            case "guestsBy" -> { int s = sheet(-1); call("guestsBy", s, sortOf(s), small(8), small(4)); }
            case "taken" -> call("taken", small(12), small(7));
            case "known", "ring" -> call(m.getName(), small(n));
            case "learns" -> call("learns", small(n), small(2));
            case "evening" -> call("evening", small(3));
            case "best" -> call("best", small(3), small(2));
            case "told", "does" -> call(m.getName(), small(n), small(m.getName().equals("told") ? 6 : 4));
            case "judge", "film", "laws" -> call(m.getName(), small(4), small(n));
            case "kinds" -> call("kinds", small(4), small(n), small(2));
            case "manners" -> call("manners", small(4), small(n), small(6));
            case "live" -> { if (lot.nextInt(4) == 0) call("live"); }
            case "back" -> { if (lot.nextInt(3) == 0) call("back"); }
            default -> {
                Object[] a = new Object[m.getParameterCount()];
                for (int i = 0; i < a.length; i++) a[i] = small(i == 0 && a.length > 1 || m.getParameterCount() == 1 ? 6 : 3);
                call(m.getName(), a);
            }
        }
    }

    /** A sheet that is mostly there; if there is another one, mostly of its sort. */
    private int sheet(int other) {
        int s = small(4);
        for (int i = 0; i < 9 && (isMissing(s) || !isMissing(other) && sortOf(s) != sortOf(other)); i++) s = small(4);
        return s;
    }

    private boolean isMissing(int s) {
        return s < 0 || s > 3 || model.sheets[s] == null;
    }

    private int sortOf(int s) {
        return isMissing(s) || lot.nextInt(9) == 0 ? small(3) : model.sortOf(s);
    }

    private int money() {
        return switch (lot.nextInt(4)) { case 0 -> lot.nextInt(20); case 1 -> 9980 + lot.nextInt(22); default -> small(10000); };
    }

    /** A sheet that tells what somebody would do, now and then with a slip. */
    private void tell() throws Exception {
        if (model.n() == 0) return;
        int s = lot.nextInt(4);
        int g = lot.nextInt(model.n());
        int rows = lot.nextInt(6);
        call("sheet", s, lot.nextInt(3), 3 * rows);
        for (int r = 0; r < rows; r++) {
            int as = lot.nextInt(model.n());
            int m = lot.nextInt(4);
            call("cell", s, 3 * r, as);
            call("cell", s, 3 * r + 1, lot.nextInt(40) == 0 ? 4 : m);
            call("cell", s, 3 * r + 2, lot.nextInt(12) == 0 ? lot.nextInt(5) : model.would(10 * g + as, m));
        }
        call("judge", s, g);
        call("whose", s);
        call("laws", s, g);
        call("kinds", s, g, lot.nextInt(2));
        for (int what = 0; what < 6; what++) call("manners", s, g, what);
    }

    private void type(String text) throws Exception {
        for (int i = 0; i < text.length(); i += 5) {
            Object[] a = {0, 0, 0, 0, 0, 0};
            int n = Math.min(5, text.length() - i);
            a[0] = n;
            for (int k = 0; k < n; k++) a[k + 1] = (int) text.charAt(i + k);
            call("feed", a);
        }
        if (lot.nextInt(10) != 0) call("text");
        if (lot.nextBoolean()) call("force", model.texts.size() - 1);
    }

    private String sentence() {
        List<String> words = new ArrayList<>();
        for (String key : new String[] {"plays", "costs", "owes"}) {
            words.add(key);
            if (key.equals("plays") && lot.nextBoolean()) words.addAll(List.of("50", "+"));
            expression(words, lot.nextInt(4));
            words.add(";");
        }
        if (lot.nextInt(3) == 0) {
            int at = lot.nextInt(words.size());
            switch (lot.nextInt(3)) {
                case 0 -> words.remove(at);
                case 1 -> words.add(at, WORDS[lot.nextInt(WORDS.length)]);
                default -> words.set(at, WORDS[lot.nextInt(WORDS.length)]);
            }
        }
        StringBuilder all = new StringBuilder();
        for (String w : words) {
            boolean glues = lot.nextInt(3) == 0;
            all.append(w).append(glues ? "" : lot.nextInt(5) == 0 ? "\n" : " ");
        }
        return all.toString();
    }

    private void expression(List<String> words, int depth) {
        int parts = 1 + lot.nextInt(2);
        for (int i = 0; i < parts; i++) {
            if (i > 0) words.add(List.of("or", "and", "+", "-", "*", "*", "<", "=").get(lot.nextInt(8)));
            int kind = lot.nextInt(depth > 0 ? 6 : 2);
            if (kind == 0) words.add(WORDS[20 + lot.nextInt(4)]);
            else if (kind == 1) words.add(WORDS[6 + lot.nextInt(6)]);
            else if (kind == 2) { words.add("-"); expression(words, depth - 1); }
            else if (kind == 3 && i == 0) { words.add("not"); expression(words, depth - 1); }
            else { words.add("("); expression(words, depth - 1); words.add(")"); }
        }
    }

    private void call(String name, Object... args) throws Exception {
        Class<?>[] types = new Class<?>[args.length];
        java.util.Arrays.fill(types, int.class);
        String line = name + java.util.Arrays.toString(args);
        Object due = Model.class.getMethod(name, types).invoke(model, args);
        Object got;
        try {
            got = SomebodyElseTonight.class.getMethod(name, types).invoke(x, args);
        } catch (java.lang.reflect.InvocationTargetException e) {
            got = e.getCause();
        }
        calls.add(line + " -> " + got + (due.equals(got) ? "" : ", due is " + due));
        if (!due.equals(got)) wrong++;
    }
}
