import java.math.BigInteger;
import java.util.ArrayList;
import java.util.Arrays;
import java.util.HashMap;
import java.util.List;
import java.util.Map;
import java.util.TreeSet;
import java.util.function.Function;

/**
 * The document once more, in the plainest and slowest way: every draw is tried, every text is a tree.
 * ModelTest holds the program's answers against this one's. It keeps to no rule of LANGUAGE.md.
 */
public final class Model {
    static final int NONE = -1, BAD = -2, STATE = -3, FULL = -4;
    static final long NO = -4611686018427387904L;

    /** A guest as one comes; the kinds below tell only what is otherwise. */
    static class Guest {
        int kind, more, plays, purse = 100;
        int[] answers;
        int rawWell(int plays, int apart) { return plays - 10 * apart; }
        int falls(int own, int other) { return own; }
        int passes() { return 50; }
        Guest as(int otherKind) {
            Guest g = ofKind(otherKind);
            g.more = more; g.plays = plays; g.purse = purse; g.answers = answers.clone();
            return g;
        }
        static Guest ofKind(int kind) {
            Guest g = switch (kind) {
                case 1 -> new Actor();
                case 2 -> new Shy();
                case 3 -> new Mimic();
                case 4 -> new Bachelor();
                case 5 -> new Himself();
                default -> new Guest();
            };
            g.kind = kind;
            return g;
        }
    }
    static class Actor extends Guest {
        @Override int rawWell(int plays, int apart) { return super.rawWell(plays, apart) + 5 * apart; }
    }
    static class Shy extends Guest {
        @Override int falls(int own, int other) { return 0; }
        @Override int passes() { return 50 + 2 * more; }
    }
    static class Mimic extends Actor {
        @Override int rawWell(int plays, int apart) { return apart > 2 ? 100 - more : super.rawWell(plays, apart); }
    }
    static class Bachelor extends Shy {
        @Override int falls(int own, int other) { return (own + other) % 4; }
        @Override int rawWell(int plays, int apart) { return super.rawWell(plays, apart) + more; }
    }
    static class Himself extends Guest {
        @Override int rawWell(int plays, int apart) { return apart == 0 ? 100 : super.rawWell(plays, apart) / 3; }
    }

    // ---- texts

    interface Tree { int worth(Map<String, Integer> names); }
    static final class Fault extends RuntimeException {
        private static final long serialVersionUID = 1;
        final int place;
        Fault(int place) { this.place = place; }
    }
    record Token(String word, int place) { }

    static final class Grammar {
        final List<Token> tokens = new ArrayList<>();
        int at = 0, open = 0;

        Grammar(List<Integer> tape) {
            StringBuilder all = new StringBuilder();
            for (int b : tape) all.append((char) b);
            String text = all.toString();
            int i = 0;
            while (i < text.length()) {
                char c = text.charAt(i);
                if (c == ' ' || c == '\n') { i++; continue; }
                int j = i + 1;
                if (c >= 'a' && c <= 'z') while (j < text.length() && text.charAt(j) >= 'a' && text.charAt(j) <= 'z') j++;
                if (c >= '0' && c <= '9') while (j < text.length() && text.charAt(j) >= '0' && text.charAt(j) <= '9') j++;
                tokens.add(new Token(text.substring(i, j), i));
                i = j;
            }
            tokens.add(new Token("", text.length()));
        }
        String see() { return tokens.get(at).word(); }
        Fault fault() { return new Fault(tokens.get(at).place()); }
        boolean eat(String... words) {
            if (!Arrays.asList(words).contains(see()) || see().isEmpty()) return false;
            at++;
            return true;
        }
        void must(String word) { if (!eat(word)) throw fault(); }
        void opens() { if (open == 5) throw fault(); open++; }

        Tree[] text() {
            Tree[] parts = new Tree[3];
            String[] keys = {"plays", "costs", "owes"};
            for (int p = 0; p < 3; p++) { must(keys[p]); parts[p] = e(); must(";"); }
            if (!see().isEmpty()) throw fault();
            return parts;
        }
        Tree e() {
            Tree left = and();
            while (eat("or")) {
                Tree l = left, r = and();
                left = n -> truth(l.worth(n)) | truth(r.worth(n));
            }
            return left;
        }
        Tree and() {
            Tree left = not();
            while (eat("and")) {
                Tree l = left, r = not();
                left = n -> truth(l.worth(n)) & truth(r.worth(n));
            }
            return left;
        }
        Tree not() {
            if (see().equals("not")) {
                opens(); at++;
                Tree of = not();
                open--;
                return n -> 1 - truth(of.worth(n));
            }
            Tree l = sum();
            if (eat("<")) { Tree r = sum(); return n -> l.worth(n) < r.worth(n) ? 1 : 0; }
            if (eat("=")) { Tree r = sum(); return n -> l.worth(n) == r.worth(n) ? 1 : 0; }
            return l;
        }
        Tree sum() {
            Tree left = term();
            while (true) {
                Tree l = left;
                if (eat("+")) { Tree r = term(); left = n -> l.worth(n) + r.worth(n); }
                else if (eat("-")) { Tree r = term(); left = n -> l.worth(n) - r.worth(n); }
                else return left;
            }
        }
        Tree term() {
            Tree left = one();
            while (eat("*")) { Tree l = left, r = one(); left = n -> l.worth(n) * r.worth(n); }
            return left;
        }
        Tree one() {
            String s = see();
            if (s.matches("[0-9]{1,4}")) { at++; int v = Integer.parseInt(s); return n -> v; }
            if (s.matches("more|apart|matter|night|often|purse")) { at++; return n -> n.get(s); }
            if (s.equals("-")) { opens(); at++; Tree of = one(); open--; return n -> -of.worth(n); }
            if (s.equals("(")) { opens(); at++; Tree of = e(); must(")"); open--; return of; }
            throw fault();
        }
        static int truth(int v) { return v != 0 ? 1 : 0; }
    }

    static int bound(int v, int most) { return v < 0 ? 0 : v > most ? most : v; }

    // ---- the state

    final List<Guest> guests = new ArrayList<>();
    Map<List<Integer>, Integer> often = new HashMap<>();
    int night = 0, law = 0;
    final List<Tree[]> texts = new ArrayList<>();
    List<Integer> tape = new ArrayList<>();
    /** A sheet is a byte[], a short[], an int[] or null. */
    final Object[] sheets = new Object[4];
    Runnable image = null;

    public Model() {
        texts.add(new Grammar(bytes("plays 60 + more * 3 ; costs 10 ; owes 5 ;")).text());
    }
    static List<Integer> bytes(String s) {
        List<Integer> l = new ArrayList<>();
        for (char c : s.toCharArray()) l.add((int) c);
        return l;
    }

    int n() { return guests.size(); }
    boolean is(int g) { return 0 <= g && g < n(); }
    boolean areTwo(int gAs) { return gAs >= 0 && is(gAs / 10) && is(gAs % 10); }
    static boolean in(int v, int from, int to) { return from <= v && v <= to; }

    int apart(Guest g, Guest h) {
        int unlike = 0;
        for (int m = 0; m < 4; m++) if (g.answers[m] != h.answers[m]) unlike++;
        return unlike;
    }
    int oftenOf(int g, int as) { return often.getOrDefault(List.of(g, as), 0); }
    int says(int part, int g, int as, int matter) {
        Guest one = guests.get(g);
        Map<String, Integer> names = Map.of("more", one.more, "apart", apart(one, guests.get(as)), "matter", matter,
                "night", night, "often", Math.min(99, oftenOf(g, as)), "purse", one.purse);
        return bound(texts.get(law)[part].worth(names), part == 0 ? 100 : 99);
    }
    int well(int g, int as, int matter) {
        Guest one = guests.get(g);
        return bound(one.rawWell(says(0, g, as, matter), apart(one, guests.get(as))), 100);
    }
    int doing(int g, int as, int matter) {
        Guest one = guests.get(g), other = guests.get(as);
        if (well(g, as, matter) >= one.passes()) return other.answers[matter];
        return one.falls(one.answers[matter], other.answers[matter]);
    }
    int knownAs(int g, int as) {
        for (int m = 0; m < 4; m++) if (doing(g, as, m) != guests.get(as).answers[m]) return m;
        return -1;
    }
    static int[] answers(int manners) { return new int[] {manners / 64, manners / 16 % 4, manners / 4 % 4, manners % 4}; }
    static int number(int[] a) { return 64 * a[0] + 16 * a[1] + 4 * a[2] + a[3]; }
    int digits(List<Integer> draw) {
        int d = 0;
        for (int who : draw) d = 10 * d + who + 1;
        return d;
    }
    /** All draws, the first one first. */
    List<List<Integer>> allDraws() {
        List<List<Integer>> all = new ArrayList<>();
        all.add(List.of());
        for (int g = 0; g < n(); g++) {
            List<List<Integer>> longer = new ArrayList<>();
            for (List<Integer> d : all)
                for (int h = 0; h < n(); h++)
                    if (!d.contains(h)) { List<Integer> e = new ArrayList<>(d); e.add(h); longer.add(e); }
            all = longer;
        }
        return all;
    }
    List<Integer> playing() {
        List<Integer> l = new ArrayList<>();
        for (Guest g : guests) l.add(g.plays);
        return l;
    }
    int evening(int what, List<Integer> draw) {
        int many = 0, who = 0, costs = 0;
        for (int g = 0; g < n(); g++) {
            int m = knownAs(g, draw.get(g));
            if (m == -1) continue;
            many++;
            who += 1 << g;
            costs += says(1, g, draw.get(g), m);
        }
        return new int[] {many, who, costs}[what];
    }

    // ---- the law

    public int count(int what) {
        return in(what, 0, 4) ? new int[] {n(), night, texts.size(), law, tape.size()}[what] : BAD;
    }
    public int feed(int n, int a, int b, int c, int d, int e) {
        if (!in(n, 1, 5)) return BAD;
        List<Integer> five = List.of(a, b, c, d, e);
        for (int v : five) if (!in(v, 0, 255)) return BAD;
        if (tape.size() + n > 160) return FULL;
        tape.addAll(five.subList(0, n));
        return tape.size();
    }
    public int text() {
        if (texts.size() == 6) return FULL;
        List<Integer> read = tape;
        tape = new ArrayList<>();
        try {
            texts.add(new Grammar(read).text());
            return texts.size() - 1;
        } catch (Fault f) {
            return -100 - f.place;
        }
    }
    public int force(int t) {
        if (!in(t, 0, texts.size() - 1)) return BAD;
        int was = law;
        law = t;
        return was;
    }
    public int asks(int part, int gAs, int matter) {
        if (!in(part, 0, 2) || !areTwo(gAs) || !in(matter, 0, 3)) return BAD;
        return says(part, gAs / 10, gAs % 10, matter);
    }

    // ---- guests

    public int guest(int kindMore, int manners) {
        if (!in(kindMore, 0, 59) || !in(manners, 0, 255)) return BAD;
        if (n() == 6) return FULL;
        Guest g = Guest.ofKind(kindMore / 10);
        g.more = kindMore % 10;
        g.answers = answers(manners);
        g.plays = n();
        guests.add(g);
        return g.plays;
    }
    public int told(int g, int what) {
        if (!is(g)) return -5;
        if (!in(what, 0, 5)) return -7;
        Guest o = guests.get(g);
        return new int[] {o.kind, o.more, number(o.answers), o.plays, o.purse, o.passes()}[what];
    }
    public int pair(int gAs, int what) {
        if (!areTwo(gAs)) return -5;
        int g = gAs / 10, as = gAs % 10;
        if (what == 0) return apart(guests.get(g), guests.get(as));
        if (what == 1) return oftenOf(g, as);
        if (in(what, 2, 5)) return well(g, as, what - 2);
        return -7;
    }
    public int set(int g, int what, int v) {
        if (!is(g)) return -5;
        Guest o = guests.get(g);
        int was;
        if (what == 0 && in(v, 0, 255)) { was = number(o.answers); o.answers = answers(v); return was; }
        if (what == 1 && is(v)) { was = o.plays; o.plays = v; return was; }
        if (what == 2 && in(v, 0, 9999)) { was = o.purse; o.purse = v; return was; }
        return -7;
    }

    // ---- an evening

    public int does(int g, int matter) {
        if (!is(g)) return -5;
        return in(matter, 0, 3) ? doing(g, guests.get(g).plays, matter) : -7;
    }
    public int would(int gAs, int matter) {
        if (!areTwo(gAs)) return -5;
        return in(matter, 0, 3) ? doing(gAs / 10, gAs % 10, matter) : -7;
    }
    public int known(int g) { return is(g) ? knownAs(g, guests.get(g).plays) : -5; }
    public int evening(int what) { return in(what, 0, 2) ? evening(what, playing()) : BAD; }
    void pay(int from, int to, int sum) {
        if (from == to) return;
        Guest f = guests.get(from), t = guests.get(to);
        while (sum > 0 && f.purse > 0 && t.purse < 9999) { f.purse--; t.purse++; sum--; }
    }
    public int live() {
        if (night == 99) return FULL;
        int many = 0;
        for (int g = 0; g < n(); g++) {
            int as = guests.get(g).plays;
            int m = knownAs(g, as);
            if (m != -1) { many++; pay(g, as, says(1, g, as, m)); }
            pay(as, (as + 1) % n(), says(2, g, as, 0));
            often.merge(List.of(g, as), 1, Integer::sum);
        }
        night++;
        return many;
    }

    // ---- who can be who

    int canBe(int g, int matters) {
        int bits = 0;
        for (int h = 0; h < n(); h++) {
            boolean same = true;
            for (int m = 0; m < 4; m++)
                if ((matters & 1 << m) != 0) same &= doing(g, h, m) == doing(g, guests.get(g).plays, m);
            if (same) bits += 1 << h;
        }
        return bits;
    }
    List<List<Integer>> fitting(int matters) {
        int[] can = new int[n()];
        for (int g = 0; g < n(); g++) can[g] = canBe(g, matters);
        List<List<Integer>> fit = new ArrayList<>();
        for (List<Integer> d : allDraws()) {
            boolean fits = true;
            for (int g = 0; g < n(); g++) fits &= (can[g] & 1 << d.get(g)) != 0;
            if (fits) fit.add(d);
        }
        return fit;
    }
    public int may(int g, int matters) {
        if (!is(g)) return -5;
        return in(matters, 0, 15) ? canBe(g, matters) : -7;
    }
    public int fits(int matters, int what) {
        if (!in(matters, 0, 15) || !in(what, 0, 1)) return BAD;
        List<List<Integer>> fit = fitting(matters);
        return what == 0 ? fit.size() : fit.isEmpty() ? 0 : digits(fit.get(0));
    }
    public int next(int matters, int what) {
        if (!in(matters, 0, 15) || !in(what, 0, 1)) return BAD;
        int best = -1, many = 1000;
        for (int m = 0; m < 4; m++) {
            if ((matters & 1 << m) != 0) continue;
            int now = fitting(matters | 1 << m).size();
            if (now < many) { best = m; many = now; }
        }
        if (best == -1) many = fitting(15).size();
        return what == 0 ? best : many;
    }
    public int fewest() {
        int all = fitting(15).size();
        for (int size = 0; size < 4; size++)
            for (int b = 0; b < 15; b++)
                if (Integer.bitCount(b) == size && fitting(b).size() == all) return b;
        return 15;
    }

    // ---- draws that are best

    public int best(int goal, int what) {
        if (!in(goal, 0, 2) || !in(what, 0, 1)) return BAD;
        List<Integer> best = null;
        int least = 0;
        for (List<Integer> d : allDraws()) {
            boolean self = false;
            for (int g = 0; g < n(); g++) self |= d.get(g) == g;
            if (self && n() != 1) continue;
            int v = goal == 0 ? evening(0, d) : goal == 1 ? evening(2, d) : -evening(2, d);
            if (best == null || v < least) { best = d; least = v; }
        }
        return what == 0 ? digits(best) : least;
    }
    public int chain(int g, int depth) {
        if (!is(g)) return -5;
        if (!in(depth, 0, 99)) return -7;
        return depth == 0 ? g : guests.get(chain(g, depth - 1)).plays;
    }
    public int ring(int g) {
        if (!is(g)) return -5;
        for (int d = 1; d <= 6; d++) if (chain(g, d) == g) return d;
        return -1;
    }
    public int asIf(int g, int matter, int depth) {
        if (!is(g)) return -5;
        if (!in(matter, 0, 3) || !in(depth, 0, 20)) return -7;
        return doing(g, chain(g, depth), matter);
    }
    /** What is so while a guest's answers are others. */
    <T> T were(int g, int manners, Function<Guest, T> asked) {
        Guest o = guests.get(g);
        int[] was = o.answers;
        o.answers = answers(manners);
        T t = asked.apply(o);
        o.answers = was;
        return t;
    }
    public int learns(int g, int what) {
        if (!is(g)) return -5;
        if (!in(what, 0, 1)) return -7;
        int best = -1, least = 9;
        for (int m = 0; m < 256; m++) {
            int unlike = were(g, m, o -> {
                int many = 0;
                for (int k = 0; k < 4; k++) if (doing(g, o.plays, k) != guests.get(o.plays).answers[k]) many++;
                return many;
            });
            if (unlike < least) { best = m; least = unlike; }
        }
        return what == 0 ? best : least;
    }

    // ---- told evenings

    /** The numbers of a sheet; null: it is missing. */
    int[] numbers(int s) {
        Object o = sheets[s];
        if (o instanceof byte[] b) { int[] r = new int[b.length]; for (int i = 0; i < r.length; i++) r[i] = b[i]; return r; }
        if (o instanceof short[] b) { int[] r = new int[b.length]; for (int i = 0; i < r.length; i++) r[i] = b[i]; return r; }
        return (int[]) o;
    }
    int sortOf(int s) { return sheets[s] instanceof byte[] ? 0 : sheets[s] instanceof short[] ? 1 : 2; }
    int toldWrong(int s) {
        if (!in(s, 0, 3)) return BAD;
        int[] row = numbers(s);
        if (row == null) return -11;
        if (row.length % 3 != 0) return BAD;
        for (int i = 0; i < row.length; i += 3) if (!is(row[i]) || !in(row[i + 1], 0, 3)) return BAD;
        return 0;
    }
    int judged(int s, int g) {
        int[] row = numbers(s);
        for (int i = 0; i < row.length; i += 3) if (doing(g, row[i], row[i + 1]) != row[i + 2]) return i / 3;
        return -1;
    }
    int refusal(int s, int g) {
        int wrong = toldWrong(s);
        return wrong != 0 ? wrong : is(g) ? 0 : -5;
    }
    public int judge(int s, int g) {
        int wrong = refusal(s, g);
        return wrong != 0 ? wrong : judged(s, g);
    }
    public int kinds(int s, int g, int sort) {
        int wrong = refusal(s, g);
        if (wrong != 0) return wrong;
        if (!in(sort, 0, 1)) return -7;
        Guest was = guests.get(g);
        int bits = 0;
        for (int v = 0; v < (sort == 0 ? 6 : 10); v++) {
            Guest other = was.as(sort == 0 ? v : was.kind);
            if (sort == 1) other.more = v;
            guests.set(g, other);
            if (judged(s, g) == -1) bits += 1 << v;
        }
        guests.set(g, was);
        return bits;
    }
    public int manners(int s, int g, int what) {
        int wrong = refusal(s, g);
        if (wrong != 0) return wrong;
        if (!in(what, 0, 5)) return -7;
        TreeSet<Integer> good = new TreeSet<>();
        for (int m = 0; m < 256; m++) if (were(g, m, o -> judged(s, g)) == -1) good.add(m);
        if (what == 0) return good.size();
        if (good.isEmpty()) return -1;
        if (what == 1) return good.first();
        TreeSet<Integer> answers = new TreeSet<>();
        for (int m : good) answers.add(answers(m)[what - 2]);
        return answers.size() == 1 ? answers.first() : -1;
    }
    public int whose(int s) {
        int wrong = toldWrong(s);
        if (wrong != 0) return wrong;
        int bits = 0;
        for (int g = 0; g < n(); g++) if (judged(s, g) == -1) bits += 1 << g;
        return bits;
    }
    public int laws(int s, int g) {
        int wrong = refusal(s, g);
        if (wrong != 0) return wrong;
        int was = law, bits = 0;
        for (law = 0; law < texts.size(); law++) if (judged(s, g) == -1) bits += 1 << law;
        law = was;
        return bits;
    }
    public int film(int s, int g) {
        if (!in(s, 0, 3)) return BAD;
        if (!is(g)) return -5;
        List<Integer> shown = new ArrayList<>();
        for (int h = 0; h < n(); h++)
            for (int m = 0; m < 4; m++)
                if (shown.size() < 39) shown.addAll(List.of(h, m, doing(g, h, m)));
        byte[] row = new byte[shown.size()];
        for (int i = 0; i < row.length; i++) row[i] = shown.get(i).byteValue();
        sheets[s] = row;
        return row.length / 3;
    }

    // ---- lots

    List<Integer> byLots(int seed) {
        List<Integer> draw = new ArrayList<>();
        for (int g = 0; g < n(); g++) draw.add(g);
        BigInteger lot = BigInteger.valueOf(seed + 1L);
        for (int k = n() - 1; k >= 1; k--) {
            lot = lot.multiply(BigInteger.valueOf(48271)).mod(BigInteger.valueOf(2147483647));
            java.util.Collections.swap(draw, k, lot.mod(BigInteger.valueOf(k + 1)).intValue());
        }
        return draw;
    }
    int selves(List<Integer> draw) {
        int bits = 0;
        for (int g = 0; g < n(); g++) if (draw.get(g) == g) bits += 1 << g;
        return bits;
    }
    public int drawn(int seed, int what) {
        if (!in(seed, 0, 99999) || !in(what, 0, 3)) return BAD;
        List<Integer> d = byLots(seed);
        return new int[] {selves(d), evening(0, d), evening(2, d), digits(d)}[what];
    }
    public int lots(int seed) {
        if (!in(seed, 0, 99999)) return BAD;
        List<Integer> d = byLots(seed);
        for (int g = 0; g < n(); g++) guests.get(g).plays = d.get(g);
        return Integer.bitCount(selves(d));
    }
    static long lowest(long above, long below, int part) {
        long by = BigInteger.valueOf(above).gcd(BigInteger.valueOf(below)).longValue();
        return (part == 0 ? above : below) / by;
    }
    public long odds(int seed, int seeds, int part) {
        if (!in(seed, 0, 99999) || !in(seeds, 1, 99) || !in(part, 0, 1)) return NO;
        int many = 0;
        for (int i = 0; i < seeds; i++) if (selves(byLots(seed + i)) == 0) many++;
        return lowest(many, seeds, part);
    }
    public long chance(int many, int part) {
        if (!in(many, 0, n()) || !in(part, 0, 1)) return NO;
        int such = 0;
        List<List<Integer>> all = allDraws();
        for (List<Integer> d : all) if (Integer.bitCount(selves(d)) == many) such++;
        return lowest(such, all.size(), part);
    }
    public int image() {
        int many = n(), nightWas = night, lawWas = law;
        Map<List<Integer>, Integer> oftenWas = new HashMap<>(often);
        List<int[]> each = new ArrayList<>();
        for (Guest g : guests) each.add(new int[] {number(g.answers), g.plays, g.purse});
        image = () -> {
            while (n() > many) guests.remove(n() - 1);
            night = nightWas;
            law = lawWas;
            often = new HashMap<>(oftenWas);
            for (int i = 0; i < many; i++) {
                Guest g = guests.get(i);
                g.answers = answers(each.get(i)[0]);
                g.plays = each.get(i)[1];
                g.purse = each.get(i)[2];
            }
        };
        return many;
    }
    public int back() {
        if (image == null) return STATE;
        image.run();
        return n();
    }

    // ---- the host

    public int sheet(int s, int sort, int n) {
        if (!in(s, 0, 3) || !in(sort, -1, 2)) return BAD;
        if (sort == -1) { sheets[s] = null; return 1; }
        if (n > 40) return BAD;
        if (n < 0) return -14;
        sheets[s] = sort == 0 ? new byte[n] : sort == 1 ? new short[n] : new int[n];
        return 1;
    }
    public int cell(int s, int i, int v) {
        if (!in(s, 0, 3)) return BAD;
        if (sheets[s] == null) return -11;
        if (!in(i, 0, numbers(s).length - 1)) return -12;
        if (sheets[s] instanceof byte[] b) b[i] = (byte) v;
        else if (sheets[s] instanceof short[] b) b[i] = (short) v;
        else ((int[]) sheets[s])[i] = v;
        return 1;
    }
    public int copy(int s, int i, int other, int j, int n) {
        if (!in(s, 0, 3) || !in(other, 0, 3)) return BAD;
        try {
            System.arraycopy(sheets[s], i, sheets[other], j, n);
            return n;
        } catch (NullPointerException e) {
            return -11;
        } catch (ArrayStoreException e) {
            return -13;
        } catch (IndexOutOfBoundsException e) {
            return -12;
        }
    }
    public int guestsBy(int s, int sort, int at, int n) {
        if (!in(s, 0, 3) || !in(sort, 0, 2) || !in(n, 0, 6)) return BAD;
        if (sheets[s] == null) return -11;
        if (sortOf(s) != sort) return -13;
        int[] row = numbers(s);
        int came = 0;
        for (long k = at; k < at + 2L * n; k += 2) {
            if (k < 0 || k + 1 >= row.length) return -12;
            if (guest(row[(int) k], row[(int) k + 1]) >= 0) came++;
        }
        return came;
    }
    public int taken(int i, int kind) {
        if (!in(kind, 0, 6)) return BAD;
        if (!in(i, 0, 11)) return -12;
        if (!is(i % 6)) return -11;
        Object lies = i < 6 ? guests.get(i) : guests.get(i - 6).answers;
        if (kind == 6) return lies instanceof int[] a ? number(a) : -13;
        return Guest.ofKind(kind).getClass().isInstance(lies) ? i : -13;
    }
}
