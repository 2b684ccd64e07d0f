/**
 * A club of up to six guests, each of whom plays another one for an evening.
 * The promises by number, as ../shared/DOC.md tells them, stand at the methods of the face.
 */
public final class SomebodyElseTonight {
    public static final int NONE = -1, BAD = -2, STATE = -3, FULL = -4;
    public static final long NO = -4611686018427387904L;

    private static final int FINE = 0, NO_GUEST = -5, NOT_SO = -7, FAULT = -100;
    private static final int MISSING = -11, OUTSIDE = -12, OTHER_SORT = -13, BELOW_ZERO = -14;

    private static final int GUESTS = 6, MATTERS = 4, ALL_MATTERS = 15, MANNERS = 256, MORES = 10;
    private static final int MOST_PURSE = 9999, FIRST_PURSE = 100, LAST_NIGHT = 99, MOST_OFTEN = 99;
    private static final int TEXTS = 6, TAPE = 160, OPEN = 5;
    private static final int SHEETS = 4, SHEET_SIZE = 40, FILM_ROWS = 13;
    private static final int SEEDS = 100000;

    private static final int GUEST = 0, ACTOR = 1, SHY = 2, MIMIC = 3, BACHELOR = 4, HIMSELF = 5, KINDS = 6;
    /** What each kind is besides: the kind above it, -1 above GUEST. */
    private static final int[] KIND_ABOVE = {-1, GUEST, GUEST, ACTOR, SHY, GUEST};

    private static final int BYTES = 0, SHORTS = 1, INTS = 2, NO_SORT = -1;

    private static final int PLAYS = 0, COSTS = 1, OWES = 2;

    // Steps of a text that was read: a number from 0 on stands for itself, the others are below 0.
    private static final int MORE = -1, APART = -2, MATTER = -3, NIGHT = -4, OFTEN = -5, PURSE = -6;
    private static final int MINUS_ONE = -10, NOT = -11;
    private static final int PLUS = -12, LESS = -13, TIMES = -14, BELOW = -15, LIKE = -16, AND = -17, OR = -18;
    private static final int END = -20;
    /** plays 60 + more * 3 ; costs 10 ; owes 5 ; */
    private static final int[] FIRST_TEXT = {60, MORE, 3, TIMES, PLUS, END, 10, END, 5, END};

    private static final int[] FACTORIAL = {1, 1, 2, 6, 24, 120, 720};
    /** In how many draws of so many guests nobody plays oneself. */
    private static final int[] NOBODY_HIMSELF = {1, 0, 1, 2, 9, 44, 265};

    private final Draws draws = new Draws();
    private final Stage stage = draws.stage;
    private final Club club = draws.club;
    private final Club kept = new Club();
    private boolean isKept = false;
    private final Reader reader = new Reader();
    private final Sheet[] sheets = {new Sheet(), new Sheet(), new Sheet(), new Sheet()};

    /** Promise 1. */
    public SomebodyElseTonight() {
    }

    // ---- the law

    /** Promise 2. */
    public int count(int what) {
        switch (what) {
            case 0: return club.size;
            case 1: return club.night;
            case 2: return stage.textCount;
            case 3: return club.law;
            case 4: return reader.size;
            default: return BAD;
        }
    }

    /** Promise 3. */
    public int feed(int n, int a, int b, int c, int d, int e) {
        if (n < 1 || n > 5) return BAD;
        if (!isByte(a) || !isByte(b) || !isByte(c) || !isByte(d) || !isByte(e)) return BAD;
        if (reader.size + n > TAPE) return FULL;
        for (int i = 0; i < n; i++) {
            reader.add(i == 0 ? a : i == 1 ? b : i == 2 ? c : i == 3 ? d : e);
        }
        return reader.size;
    }

    /** Promise 4. */
    public int text() {
        if (stage.textCount >= TEXTS) return FULL;
        int fault = reader.read();
        reader.size = 0;
        if (fault >= 0) return FAULT - fault;
        return stage.addText(new Text(reader.steps, reader.stepCount));
    }

    /** Promise 5. */
    public int force(int t) {
        if (t < 0 || t >= stage.textCount) return BAD;
        int was = club.law;
        club.law = t;
        return was;
    }

    /** Promise 6. */
    public int asks(int part, int gAs, int matter) {
        if (part < PLAYS || part > OWES || !arePair(gAs) || !isMatter(matter)) return BAD;
        return stage.law().says(part, stage.asking(gAs / 10, gAs % 10, matter));
    }

    // ---- guests

    /** Promise 7. */
    public int guest(int kindMore, int manners) {
        if (kindMore < 0 || kindMore >= KINDS * 10 || manners < 0 || manners >= MANNERS) return BAD;
        if (club.size >= GUESTS) return FULL;
        return club.add(kindMore / 10, kindMore % 10, manners);
    }

    /** Promise 8. */
    public int told(int g, int what) {
        if (!club.has(g)) return NO_GUEST;
        switch (what) {
            case 0: return at(club.kind, g);
            case 1: return at(club.more, g);
            case 2: return at(club.manners, g);
            case 3: return at(club.plays, g);
            case 4: return at(club.purse, g);
            case 5: return stage.passesFrom(g);
            default: return NOT_SO;
        }
    }

    /** Promise 9. */
    public int pair(int gAs, int what) {
        if (!arePair(gAs)) return NO_GUEST;
        int g = gAs / 10;
        int as = gAs % 10;
        switch (what) {
            case 0: return club.apart(g, as);
            case 1: return at(club.often, place(g, as));
            case 2: case 3: case 4: case 5: return stage.well(g, as, what - 2);
            default: return NOT_SO;
        }
    }

    /** Promise 10. */
    public int set(int g, int what, int v) {
        if (!club.has(g)) return NO_GUEST;
        if (what < 0 || what > 2 || v < 0) return NOT_SO;
        if (v >= (what == 0 ? MANNERS : what == 1 ? club.size : MOST_PURSE + 1)) return NOT_SO;
        int[] row = what == 0 ? club.manners : what == 1 ? club.plays : club.purse;
        int was = at(row, g);
        put(row, g, v);
        return was;
    }

    // ---- an evening

    /** Promise 11. */
    public int does(int g, int matter) {
        if (!club.has(g)) return NO_GUEST;
        if (!isMatter(matter)) return NOT_SO;
        return stage.doing(g, at(club.plays, g), matter);
    }

    /** Promise 12. */
    public int would(int gAs, int matter) {
        if (!arePair(gAs)) return NO_GUEST;
        if (!isMatter(matter)) return NOT_SO;
        return stage.doing(gAs / 10, gAs % 10, matter);
    }

    /** Promise 13. */
    public int known(int g) {
        if (!club.has(g)) return NO_GUEST;
        return stage.knownOn(g, at(club.plays, g));
    }

    /** Promise 14. */
    public int evening(int what) {
        if (what < 0 || what > 2) return BAD;
        return stage.tally(what, club.plays);
    }

    /** Promise 15. */
    public int live() {
        if (club.night >= LAST_NIGHT) return FULL;
        int many = 0;
        for (int g = 0; g < club.size; g++) {
            int as = at(club.plays, g);
            int matter = stage.knownOn(g, as);
            if (matter >= 0) {
                many++;
                club.pay(g, as, stage.law().says(COSTS, stage.asking(g, as, matter)));
            }
            club.pay(as, club.behind(as), stage.law().says(OWES, stage.asking(g, as, 0)));
            put(club.often, place(g, as), at(club.often, place(g, as)) + 1);
        }
        club.night++;
        return many;
    }

    // ---- who can be who

    /** Promise 16. */
    public int may(int g, int matters) {
        if (!club.has(g)) return NO_GUEST;
        if (!areMatters(matters)) return NOT_SO;
        draws.compare(g);
        return draws.canBe(g, matters);
    }

    /** Promise 17. */
    public int fits(int matters, int what) {
        if (!areMatters(matters) || what < 0 || what > 1) return BAD;
        draws.compareAll();
        int many = draws.fitting(matters);
        return what == 0 ? many : draws.firstFitting();
    }

    /** Promise 18. */
    public int next(int matters, int what) {
        if (!areMatters(matters) || what < 0 || what > 1) return BAD;
        draws.compareAll();
        int chosen = NONE;
        int fewestDraws = draws.fitting(matters);
        for (int m = 0; m < MATTERS; m++) {
            if ((matters >> m & 1) != 0) continue;
            int many = draws.fitting(matters | 1 << m);
            if (chosen == NONE || many < fewestDraws) {
                chosen = m;
                fewestDraws = many;
            }
        }
        return what == 0 ? chosen : fewestDraws;
    }

    /** Promise 19. */
    public int fewest() {
        draws.compareAll();
        int byAll = draws.fitting(ALL_MATTERS);
        int chosen = ALL_MATTERS;
        for (int matters = 0; matters < ALL_MATTERS; matters++) {
            boolean fewer = Integer.bitCount(matters) < Integer.bitCount(chosen);
            if (fewer && draws.fitting(matters) == byAll) chosen = matters;
        }
        return chosen;
    }

    // ---- draws that are best

    /** Promise 20. */
    public int best(int goal, int what) {
        if (goal < 0 || goal > 2 || what < 0 || what > 1) return BAD;
        for (int g = 0; g < club.size; g++) {
            for (int as = 0; as < club.size; as++) {
                int matter = stage.knownOn(g, as);
                int weight = matter < 0 ? 0
                        : goal == 0 ? 1 : stage.law().says(COSTS, stage.asking(g, as, matter));
                draws.weigh(g, as, goal == 2 ? -weight : weight);
            }
        }
        int least = draws.leastSum();
        return what == 0 ? draws.firstLeast() : least;
    }

    /** Promise 21. */
    public int chain(int g, int depth) {
        if (!club.has(g)) return NO_GUEST;
        if (depth < 0 || depth > 99) return NOT_SO;
        return club.chained(g, depth);
    }

    /** Promise 22. */
    public int ring(int g) {
        if (!club.has(g)) return NO_GUEST;
        for (int depth = 1; depth <= GUESTS; depth++) {
            if (club.chained(g, depth) == g) return depth;
        }
        return NONE;
    }

    /** Promise 23. */
    public int asIf(int g, int matter, int depth) {
        if (!club.has(g)) return NO_GUEST;
        if (!isMatter(matter) || depth < 0 || depth > 20) return NOT_SO;
        return stage.doing(g, club.chained(g, depth), matter);
    }

    /** Promise 24. */
    public int learns(int g, int what) {
        if (!club.has(g)) return NO_GUEST;
        if (what < 0 || what > 1) return NOT_SO;
        int was = at(club.manners, g);
        int chosen = 0;
        int least = MATTERS + 1;
        for (int m = 0; m < MANNERS; m++) {
            put(club.manners, g, m);
            int unlike = stage.otherwise(g);
            if (unlike < least) {
                chosen = m;
                least = unlike;
            }
        }
        put(club.manners, g, was);
        return what == 0 ? chosen : least;
    }

    // ---- told evenings

    /** Promise 25. */
    public int judge(int s, int g) {
        int refusal = refusalOfTold(s);
        if (refusal != FINE) return refusal;
        if (!club.has(g)) return NO_GUEST;
        return firstOtherwise(s, g);
    }

    /** Promise 26. */
    public int kinds(int s, int g, int sort) {
        int refusal = refusalOfTold(s);
        if (refusal != FINE) return refusal;
        if (!club.has(g)) return NO_GUEST;
        if (sort < 0 || sort > 1) return NOT_SO;
        int[] row = sort == 0 ? club.kind : club.more;
        int was = at(row, g);
        int bits = 0;
        for (int v = 0; v < (sort == 0 ? KINDS : MORES); v++) {
            put(row, g, v);
            if (firstOtherwise(s, g) == NONE) bits |= 1 << v;
        }
        put(row, g, was);
        return bits;
    }

    /** Promise 27. */
    public int manners(int s, int g, int what) {
        int refusal = refusalOfTold(s);
        if (refusal != FINE) return refusal;
        if (!club.has(g)) return NO_GUEST;
        if (what < 0 || what > 5) return NOT_SO;
        int was = at(club.manners, g);
        int many = 0;
        int least = NONE;
        int changing = 0;
        for (int m = 0; m < MANNERS; m++) {
            put(club.manners, g, m);
            if (firstOtherwise(s, g) != NONE) continue;
            many++;
            if (least == NONE) least = m;
            changing |= m ^ least;
        }
        put(club.manners, g, was);
        if (what == 0) return many;
        if (what == 1 || least == NONE) return least;
        return answerOf(changing, what - 2) == 0 ? answerOf(least, what - 2) : NONE;
    }

    /** Promise 28. */
    public int whose(int s) {
        int refusal = refusalOfTold(s);
        if (refusal != FINE) return refusal;
        int bits = 0;
        for (int g = 0; g < club.size; g++) {
            if (firstOtherwise(s, g) == NONE) bits |= 1 << g;
        }
        return bits;
    }

    /** Promise 29. */
    public int laws(int s, int g) {
        int refusal = refusalOfTold(s);
        if (refusal != FINE) return refusal;
        if (!club.has(g)) return NO_GUEST;
        int was = club.law;
        int bits = 0;
        for (int t = 0; t < stage.textCount; t++) {
            club.law = t;
            if (firstOtherwise(s, g) == NONE) bits |= 1 << t;
        }
        club.law = was;
        return bits;
    }

    /** Promise 30. */
    public int film(int s, int g) {
        Sheet sheet = sheetAt(s);
        if (sheet == null) return BAD;
        if (!club.has(g)) return NO_GUEST;
        int rows = Math.min(FILM_ROWS, club.size * MATTERS);
        sheet.become(BYTES, rows * 3);
        for (int r = 0; r < rows; r++) {
            int as = r / MATTERS;
            int matter = r % MATTERS;
            sheet.write(r * 3, as);
            sheet.write(r * 3 + 1, matter);
            sheet.write(r * 3 + 2, stage.doing(g, as, matter));
        }
        return rows;
    }

    // ---- lots

    /** Promise 31. */
    public int drawn(int seed, int what) {
        if (!isSeed(seed) || what < 0 || what > 3) return BAD;
        draws.byLots(seed);
        switch (what) {
            case 0: return draws.selves();
            case 1: return stage.tally(0, draws.draw);
            case 2: return stage.tally(2, draws.draw);
            default: return draws.digits();
        }
    }

    /** Promise 32. */
    public int lots(int seed) {
        if (!isSeed(seed)) return BAD;
        draws.byLots(seed);
        for (int g = 0; g < club.size; g++) put(club.plays, g, at(draws.draw, g));
        return Integer.bitCount(draws.selves());
    }

    /** Promise 33. */
    public long odds(int seed, int seeds, int part) {
        if (!isSeed(seed) || seeds < 1 || seeds > 99 || part < 0 || part > 1) return NO;
        int many = 0;
        for (int i = 0; i < seeds; i++) {
            draws.byLots(seed + i);
            if (draws.selves() == 0) many++;
        }
        return lowest(many, seeds, part);
    }

    /** Promise 34. */
    public long chance(int many, int part) {
        if (many < 0 || many > club.size || part < 0 || part > 1) return NO;
        int others = club.size - many;
        int all = at(FACTORIAL, club.size);
        int orders = at(FACTORIAL, many) * at(FACTORIAL, others);
        if (orders == 0) return NO;
        return lowest(all / orders * at(NOBODY_HIMSELF, others), all, part);
    }

    /** Promise 35. */
    public int image() {
        kept.become(club);
        isKept = true;
        return club.size;
    }

    /** Promise 36. */
    public int back() {
        if (!isKept) return STATE;
        club.become(kept);
        return club.size;
    }

    // ---- the host

    /** Promise 37. */
    public int sheet(int s, int sort, int n) {
        Sheet sheet = sheetAt(s);
        if (sheet == null || sort < NO_SORT || sort > INTS) return BAD;
        if (sort == NO_SORT) {
            sheet.become(NO_SORT, 0);
            return 1;
        }
        if (n > SHEET_SIZE) return BAD;
        if (n < 0) return BELOW_ZERO;
        sheet.become(sort, n);
        return 1;
    }

    /** Promise 38. */
    public int cell(int s, int i, int v) {
        Sheet sheet = sheetAt(s);
        if (sheet == null) return BAD;
        if (sheet.sort == NO_SORT) return MISSING;
        if (i < 0 || i >= sheet.size) return OUTSIDE;
        sheet.write(i, v);
        return 1;
    }

    /** Promise 39. */
    public int copy(int s, int i, int other, int j, int n) {
        Sheet from = sheetAt(s);
        Sheet to = sheetAt(other);
        if (from == null || to == null) return BAD;
        if (from.sort == NO_SORT || to.sort == NO_SORT) return MISSING;
        if (from.sort != to.sort) return OTHER_SORT;
        if (i < 0 || j < 0 || n < 0 || n > from.size - i || n > to.size - j) return OUTSIDE;
        // In a row's own copy no number may be overwritten before it has been read.
        for (int k = 0; k < n; k++) {
            int step = i < j ? n - 1 - k : k;
            put(to.row, j + step, at(from.row, i + step));
        }
        return n;
    }

    /** Promise 40. */
    public int guestsBy(int s, int sort, int at, int n) {
        Sheet sheet = sheetAt(s);
        if (sheet == null || sort < BYTES || sort > INTS || n < 0 || n > GUESTS) return BAD;
        if (sheet.sort == NO_SORT) return MISSING;
        if (sheet.sort != sort) return OTHER_SORT;
        int came = 0;
        for (int k = 0; k < n; k++) {
            int pair = at + 2 * k;
            if (pair < 0 || pair > sheet.size - 2) return OUTSIDE;
            if (guest(at(sheet.row, pair), at(sheet.row, pair + 1)) >= 0) came++;
        }
        return came;
    }

    /** Promise 41. */
    public int taken(int i, int kind) {
        if (kind < 0 || kind > KINDS) return BAD;
        if (i < 0 || i >= 2 * GUESTS) return OUTSIDE;
        int g = i % GUESTS;
        if (!club.has(g)) return MISSING;
        if (i >= GUESTS) return kind == KINDS ? at(club.manners, g) : OTHER_SORT;
        return isOneOf(at(club.kind, g), kind) ? g : OTHER_SORT;
    }

    // ---- what is not of the face

    private static int at(int[] row, int i) {
        return row != null && i >= 0 && i < row.length ? row[i] : 0;
    }

    private static void put(int[] row, int i, int v) {
        if (row != null && i >= 0 && i < row.length) row[i] = v;
    }

    /** Where the number of two guests stands in a row of all twos. */
    private static int place(int g, int as) {
        return g * GUESTS + as;
    }

    private static int bounded(int v, int most) {
        return Math.max(0, Math.min(most, v));
    }

    private static int answerOf(int manners, int matter) {
        return manners >> 2 * (MATTERS - 1 - matter) & 3;
    }

    private static boolean isByte(int v) {
        return v >= 0 && v <= 255;
    }

    private static boolean isMatter(int matter) {
        return matter >= 0 && matter < MATTERS;
    }

    private static boolean areMatters(int matters) {
        return matters >= 0 && matters <= ALL_MATTERS;
    }

    private static boolean isSeed(int seed) {
        return seed >= 0 && seed < SEEDS;
    }

    private static boolean isOneOf(int kind, int wanted) {
        int k = kind;
        for (int up = 0; up < KINDS && k >= 0; up++) {
            if (k == wanted) return true;
            k = at(KIND_ABOVE, k);
        }
        return false;
    }

    /** Part 0 is what stands above, 1 below the line. */
    private static long lowest(int above, int below, int part) {
        int a = below;
        int b = above;
        for (int i = 0; i < 64 && b != 0; i++) {
            int rest = a % b;
            a = b;
            b = rest;
        }
        int shown = part == 0 ? above : below;
        return a == 0 ? shown : shown / a;
    }

    private boolean arePair(int gAs) {
        return gAs >= 0 && club.has(gAs / 10) && club.has(gAs % 10);
    }

    private Sheet sheetAt(int s) {
        return s >= 0 && s < SHEETS && s < sheets.length ? sheets[s] : null;
    }

    /** What is not as it must be of a sheet that tells an evening; FINE if it tells one. */
    private int refusalOfTold(int s) {
        Sheet sheet = sheetAt(s);
        if (sheet == null) return BAD;
        if (sheet.sort == NO_SORT) return MISSING;
        if (sheet.size % 3 != 0) return BAD;
        for (int i = 0; i < sheet.size; i += 3) {
            if (!club.has(at(sheet.row, i)) || !isMatter(at(sheet.row, i + 1))) return BAD;
        }
        return FINE;
    }

    /** The first row of a sheet that tells otherwise than the guest would do; NONE if there is none. */
    private int firstOtherwise(int s, int g) {
        Sheet sheet = sheetAt(s);
        if (sheet == null) return NONE;
        for (int i = 0; i < sheet.size; i += 3) {
            int did = stage.doing(g, at(sheet.row, i), at(sheet.row, i + 1));
            if (did != at(sheet.row, i + 2)) return i / 3;
        }
        return NONE;
    }

    /** The guests, and with them all that an image keeps. */
    private static final class Club {
        private int size = 0;
        private int night = 0;
        private int law = 0;
        private final int[] kind = new int[GUESTS];
        private final int[] more = new int[GUESTS];
        private final int[] manners = new int[GUESTS];
        private final int[] plays = new int[GUESTS];
        private final int[] purse = new int[GUESTS];
        /** Of who has not come it is 0: no image has kept it otherwise. */
        private final int[] often = new int[GUESTS * GUESTS];

        private boolean has(int g) {
            return g >= 0 && g < size;
        }

        private int add(int kindOfIt, int moreOfIt, int mannersOfIt) {
            int g = size;
            put(kind, g, kindOfIt);
            put(more, g, moreOfIt);
            put(manners, g, mannersOfIt);
            put(plays, g, g);
            put(purse, g, FIRST_PURSE);
            size++;
            return g;
        }

        private int apart(int g, int as) {
            if (g < 0 || g >= manners.length || as < 0 || as >= manners.length) return 0;
            int unlike = manners[g] ^ manners[as];
            return Integer.bitCount((unlike | unlike >> 1) & 0x55);
        }

        private int behind(int g) {
            return g + 1 < size ? g + 1 : 0;
        }

        private int chained(int g, int depth) {
            int who = g;
            for (int i = 0; i < depth; i++) who = at(plays, who);
            return who;
        }

        private void pay(int from, int to, int sum) {
            if (from == to) return;
            int paid = Math.min(sum, Math.min(at(purse, from), MOST_PURSE - at(purse, to)));
            put(purse, from, at(purse, from) - paid);
            put(purse, to, at(purse, to) + paid);
        }

        private void become(Club other) {
            if (other == null) return;
            size = other.size;
            night = other.night;
            law = other.law;
            // Who is in an image never leaves the club, so KIND and MORE are as they were.
            for (int g = 0; g < GUESTS; g++) {
                put(manners, g, at(other.manners, g));
                put(plays, g, at(other.plays, g));
                put(purse, g, at(other.purse, g));
            }
            for (int i = 0; i < often.length; i++) often[i] = at(other.often, i);
        }
    }

    /** What the names in a text stand for, while it is asked. */
    private static final class Asked {
        private int more = 0;
        private int apart = 0;
        private int matter = 0;
        private int night = 0;
        private int often = 0;
        private int purse = 0;
        /** A text keeps less than 32 numbers at once: five at each ( and five outside. */
        private final int[] stack = new int[40];

        private int named(int name) {
            switch (name) {
                case MORE: return more;
                case APART: return apart;
                case MATTER: return matter;
                case NIGHT: return night;
                case OFTEN: return often;
                case PURSE: return purse;
                default: return 0;
            }
        }
    }

    /** A text as it was read: its three parts as steps, each number ahead of what is made of it. */
    private static final class Text {
        private final int[] steps;
        private final int costsFrom;
        private final int owesFrom;

        private Text(int[] read, int many) {
            steps = new int[bounded(many, read == null ? 0 : read.length)];
            int ends = 0;
            int second = 0;
            int third = 0;
            for (int i = 0; i < steps.length; i++) {
                steps[i] = at(read, i);
                if (steps[i] != END) continue;
                ends++;
                if (ends == 1) second = i + 1;
                if (ends == 2) third = i + 1;
            }
            costsFrom = second;
            owesFrom = third;
        }

        private int says(int part, Asked asked) {
            if (asked == null) return 0;
            int[] stack = asked.stack;
            int top = 0;
            int from = part == PLAYS ? 0 : part == COSTS ? costsFrom : owesFrom;
            for (int i = from; i >= 0 && i < steps.length && steps[i] != END; i++) {
                int step = steps[i];
                if (step > MINUS_ONE) {
                    put(stack, top, step >= 0 ? step : asked.named(step));
                    top++;
                } else if (step == MINUS_ONE) {
                    put(stack, top - 1, -at(stack, top - 1));
                } else if (step == NOT) {
                    put(stack, top - 1, at(stack, top - 1) == 0 ? 1 : 0);
                } else {
                    put(stack, top - 2, ofBoth(step, at(stack, top - 2), at(stack, top - 1)));
                    top--;
                }
            }
            return bounded(at(stack, 0), part == PLAYS ? 100 : 99);
        }

        private static int ofBoth(int step, int a, int b) {
            switch (step) {
                case PLUS: return a + b;
                case LESS: return a - b;
                case TIMES: return a * b;
                case BELOW: return a < b ? 1 : 0;
                case LIKE: return a == b ? 1 : 0;
                case AND: return a != 0 && b != 0 ? 1 : 0;
                case OR: return a != 0 || b != 0 ? 1 : 0;
                default: return 0;
            }
        }
    }

    /** The tape, and how a text is read from it. */
    private static final class Reader {
        private static final int OVER = 0, WRONG = 1, NUMBER = 2, NAME = 3;
        private static final int KEY_PLAYS = 4, KEY_COSTS = 5, KEY_OWES = 6, KEY_OR = 7, KEY_AND = 8, KEY_NOT = 9;

        private final int[] tape = new int[TAPE];
        private int size = 0;
        private final int[] steps = new int[TAPE];
        private int stepCount = 0;
        /** The token that stands next: a sign as its byte, else one of the above. */
        private int token = OVER;
        private int tokenFrom = 0;
        private int tokenTo = 0;
        /** Of a number itself, of a name its step. */
        private int value = 0;

        private void add(int b) {
            if (size >= TAPE) return;
            put(tape, size, b);
            size++;
        }

        /** The place of the fault; -1 if there is none, then the steps are those of the text. */
        private int read() {
            stepCount = 0;
            tokenTo = 0;
            advance();
            boolean good = part(KEY_PLAYS) && part(KEY_COSTS) && part(KEY_OWES) && token == OVER;
            // Nothing is taken behind a token that can't stand there, so it is still the next one.
            return good ? -1 : tokenFrom;
        }

        private void emit(int step) {
            if (stepCount >= steps.length) return;
            put(steps, stepCount, step);
            stepCount++;
        }

        private boolean take(int wanted) {
            if (token != wanted) return false;
            advance();
            return true;
        }

        private boolean part(int key) {
            if (!take(key) || !either(0) || !take(';')) return false;
            emit(END);
            return true;
        }

        /** E of the document; open: how many ( , not, - are open. */
        private boolean either(int open) {
            if (!both(open)) return false;
            for (int i = 0; i < TAPE && token == KEY_OR; i++) {
                advance();
                if (!both(open)) return false;
                emit(OR);
            }
            return true;
        }

        private boolean both(int open) {
            if (!negation(open)) return false;
            for (int i = 0; i < TAPE && token == KEY_AND; i++) {
                advance();
                if (!negation(open)) return false;
                emit(AND);
            }
            return true;
        }

        private boolean negation(int open) {
            if (token == KEY_NOT) {
                if (open >= OPEN) return false;
                advance();
                if (!negation(open + 1)) return false;
                emit(NOT);
                return true;
            }
            if (!sum(open)) return false;
            if (token != '<' && token != '=') return true;
            int step = token == '<' ? BELOW : LIKE;
            advance();
            if (!sum(open)) return false;
            emit(step);
            return true;
        }

        private boolean sum(int open) {
            if (!product(open)) return false;
            for (int i = 0; i < TAPE && (token == '+' || token == '-'); i++) {
                int step = token == '+' ? PLUS : LESS;
                advance();
                if (!product(open)) return false;
                emit(step);
            }
            return true;
        }

        private boolean product(int open) {
            if (!one(open)) return false;
            for (int i = 0; i < TAPE && token == '*'; i++) {
                advance();
                if (!one(open)) return false;
                emit(TIMES);
            }
            return true;
        }

        private boolean one(int open) {
            if (token == NUMBER || token == NAME) {
                emit(value);
                advance();
                return true;
            }
            if (open >= OPEN) return false;
            if (token == '-') {
                advance();
                if (!one(open + 1)) return false;
                emit(MINUS_ONE);
                return true;
            }
            if (token != '(') return false;
            advance();
            return either(open + 1) && take(')');
        }

        private void advance() {
            int i = tokenTo;
            while (i < size && isBlank(at(tape, i))) i++;
            tokenFrom = i;
            if (i >= size) {
                tokenTo = size;
                token = OVER;
            } else if (isLetter(at(tape, i))) {
                while (i < size && isLetter(at(tape, i))) i++;
                tokenTo = i;
                token = word();
            } else if (isDigit(at(tape, i))) {
                while (i < size && isDigit(at(tape, i))) i++;
                tokenTo = i;
                token = number();
            } else {
                tokenTo = i + 1;
                token = isSign(at(tape, i)) ? at(tape, i) : WRONG;
            }
        }

        private int number() {
            if (tokenTo - tokenFrom > 4) return WRONG;
            value = 0;
            for (int i = tokenFrom; i < tokenTo; i++) value = value * 10 + at(tape, i) - '0';
            return NUMBER;
        }

        private int word() {
            if (isWord("plays")) return KEY_PLAYS;
            if (isWord("costs")) return KEY_COSTS;
            if (isWord("owes")) return KEY_OWES;
            if (isWord("or")) return KEY_OR;
            if (isWord("and")) return KEY_AND;
            if (isWord("not")) return KEY_NOT;
            if (isWord("more")) value = MORE;
            else if (isWord("apart")) value = APART;
            else if (isWord("matter")) value = MATTER;
            else if (isWord("night")) value = NIGHT;
            else if (isWord("often")) value = OFTEN;
            else if (isWord("purse")) value = PURSE;
            else return WRONG;
            return NAME;
        }

        private boolean isWord(String word) {
            if (tokenTo - tokenFrom != word.length() || tokenFrom < 0 || tokenTo > tape.length) return false;
            for (int i = 0; i < word.length(); i++) {
                if (tape[tokenFrom + i] != word.charAt(i)) return false;
            }
            return true;
        }

        private static boolean isBlank(int b) {
            return b == 32 || b == 10;
        }

        private static boolean isLetter(int b) {
            return b >= 'a' && b <= 'z';
        }

        private static boolean isDigit(int b) {
            return b >= '0' && b <= '9';
        }

        private static boolean isSign(int b) {
            return b == '(' || b == ')' || b == ';' || b == '+' || b == '-' || b == '*' || b == '<' || b == '=';
        }
    }

    /** Who does what as whom, by the law. */
    private static final class Stage {
        private final Club club = new Club();
        private final Text first = new Text(FIRST_TEXT, FIRST_TEXT.length);
        private final Text[] texts = {first, null, null, null, null, null};
        private int textCount = 1;
        private final Asked asked = new Asked();

        private int addText(Text text) {
            int t = textCount;
            if (t < 0 || t >= texts.length) return FULL;
            texts[t] = text;
            textCount++;
            return t;
        }

        private Text law() {
            int t = club.law;
            Text text = t >= 0 && t < texts.length ? texts[t] : first;
            return text == null ? first : text;
        }

        private Asked asking(int g, int as, int matter) {
            asked.more = at(club.more, g);
            asked.apart = club.apart(g, as);
            asked.matter = matter;
            asked.night = club.night;
            asked.often = Math.min(MOST_OFTEN, at(club.often, place(g, as)));
            asked.purse = at(club.purse, g);
            return asked;
        }

        private int well(int g, int as, int matter) {
            int more = at(club.more, g);
            int apart = club.apart(g, as);
            int well = law().says(PLAYS, asking(g, as, matter)) - 10 * apart;
            switch (at(club.kind, g)) {
                case ACTOR: well += 5 * apart; break;
                case MIMIC: well = apart > 2 ? 100 - more : well + 5 * apart; break;
                case BACHELOR: well += more; break;
                case HIMSELF: well = apart == 0 ? 100 : well / 3; break;
                default: break;
            }
            return bounded(well, 100);
        }

        private int passesFrom(int g) {
            return isOneOf(at(club.kind, g), SHY) ? 50 + 2 * at(club.more, g) : 50;
        }

        private int doing(int g, int as, int matter) {
            int others = answerOf(at(club.manners, as), matter);
            if (well(g, as, matter) >= passesFrom(g)) return others;
            int own = answerOf(at(club.manners, g), matter);
            switch (at(club.kind, g)) {
                case SHY: return 0;
                case BACHELOR: return own + others & 3;
                default: return own;
            }
        }

        /** The matter on which one would be known as another one; NONE if there is none. */
        private int knownOn(int g, int as) {
            for (int m = 0; m < MATTERS; m++) {
                if (doing(g, as, m) != answerOf(at(club.manners, as), m)) return m;
            }
            return NONE;
        }

        /** On how many matters one does otherwise than whom one plays. */
        private int otherwise(int g) {
            int as = at(club.plays, g);
            int many = 0;
            for (int m = 0; m < MATTERS; m++) {
                if (doing(g, as, m) != answerOf(at(club.manners, as), m)) many++;
            }
            return many;
        }

        /** What evening() answers, were the draw so. */
        private int tally(int what, int[] draw) {
            int many = 0;
            int who = 0;
            int costs = 0;
            for (int g = 0; g < club.size; g++) {
                int as = at(draw, g);
                int matter = knownOn(g, as);
                if (matter < 0) continue;
                many++;
                who |= 1 << g;
                costs += law().says(COSTS, asking(g, as, matter));
            }
            return what == 0 ? many : what == 1 ? who : costs;
        }
    }

    /** Draws: those that fit, the best one, one by lots. */
    private static final class Draws {
        /** Dearer than any draw: guests that are left can't all be given one whom to play. */
        private static final int FAR = 1000000;

        private final Stage stage = new Stage();
        private final Club club = stage.club;
        /** Of each two guests the matters on which one would be like oneself now, or how dear it is. */
        private final int[] table = new int[GUESTS * GUESTS];
        /** By the guests whom the first ones play already (bits): in how many ways, how dear the others'. */
        private final int[] rest = new int[1 << GUESTS];
        /** Of each guest whom he can be (bits). */
        private final int[] choices = new int[GUESTS];
        private final int[] draw = new int[GUESTS];

        private void compare(int g) {
            for (int m = 0; m < MATTERS; m++) {
                int does = stage.doing(g, at(club.plays, g), m);
                for (int as = 0; as < club.size; as++) {
                    int like = m == 0 ? 0 : at(table, place(g, as));
                    if (stage.doing(g, as, m) == does) like |= 1 << m;
                    put(table, place(g, as), like);
                }
            }
        }

        private void compareAll() {
            for (int g = 0; g < club.size; g++) compare(g);
        }

        private int canBe(int g, int matters) {
            int bits = 0;
            for (int as = 0; as < club.size; as++) {
                if ((at(table, place(g, as)) & matters) == matters) bits |= 1 << as;
            }
            return bits;
        }

        private int fitting(int matters) {
            int all = (1 << club.size) - 1;
            for (int g = 0; g < club.size; g++) put(choices, g, canBe(g, matters));
            put(rest, all, 1);
            for (int taken = all - 1; taken >= 0; taken--) {
                int free = at(choices, Integer.bitCount(taken)) & ~taken;
                int many = 0;
                for (int as = 0; as < club.size; as++) {
                    if ((free >> as & 1) != 0) many += at(rest, taken | 1 << as);
                }
                put(rest, taken, many);
            }
            return at(rest, 0);
        }

        /** Behind fitting(): the first draw that fits, as digits; 0 if there is none. */
        private int firstFitting() {
            if (at(rest, 0) == 0) return 0;
            int taken = 0;
            for (int g = 0; g < club.size; g++) {
                int free = at(choices, g) & ~taken;
                int chosen = 0;
                for (int as = club.size - 1; as >= 0; as--) {
                    if ((free >> as & 1) != 0 && at(rest, taken | 1 << as) > 0) chosen = as;
                }
                put(draw, g, chosen);
                taken |= 1 << chosen;
            }
            return digits();
        }

        private void weigh(int g, int as, int weight) {
            put(table, place(g, as), weight);
        }

        /** How dear it is at least, if one plays that one, some others being played already. */
        private int sumBy(int taken, int g, int as) {
            boolean himself = g == as && club.size > 1;
            if (himself || (taken >> as & 1) != 0) return FAR;
            int others = at(rest, taken | 1 << as);
            return others == FAR ? FAR : others + at(table, place(g, as));
        }

        private int leastSum() {
            int all = (1 << club.size) - 1;
            put(rest, all, 0);
            for (int taken = all - 1; taken >= 0; taken--) {
                int g = Integer.bitCount(taken);
                int least = FAR;
                for (int as = 0; as < club.size; as++) least = Math.min(least, sumBy(taken, g, as));
                put(rest, taken, least);
            }
            return at(rest, 0);
        }

        /** Behind leastSum(): the first draw that is so dear, as digits. */
        private int firstLeast() {
            int taken = 0;
            for (int g = 0; g < club.size; g++) {
                int chosen = 0;
                for (int as = club.size - 1; as >= 0; as--) {
                    int sum = sumBy(taken, g, as);
                    if (sum != FAR && sum == at(rest, taken)) chosen = as;
                }
                put(draw, g, chosen);
                taken |= 1 << chosen;
            }
            return digits();
        }

        private void byLots(int seed) {
            for (int g = 0; g < club.size; g++) put(draw, g, g);
            long lot = seed + 1L;
            for (int k = club.size - 1; k >= 1; k--) {
                lot = lot * 48271 % 2147483647;
                int other = (int) (lot % (k + 1));
                int whom = at(draw, k);
                put(draw, k, at(draw, other));
                put(draw, other, whom);
            }
        }

        private int selves() {
            int bits = 0;
            for (int g = 0; g < club.size; g++) {
                if (at(draw, g) == g) bits |= 1 << g;
            }
            return bits;
        }

        private int digits() {
            int digits = 0;
            for (int g = 0; g < club.size; g++) digits = digits * 10 + at(draw, g) + 1;
            return digits;
        }
    }

    /** A row of numbers of a sort, or a missing one. */
    private static final class Sheet {
        private int sort = NO_SORT;
        private int size = 0;
        private final int[] row = new int[SHEET_SIZE];

        private void become(int sortOfIt, int sizeOfIt) {
            sort = sortOfIt;
            size = bounded(sizeOfIt, SHEET_SIZE);
            for (int i = 0; i < size; i++) put(row, i, 0);
        }

        private void write(int i, int v) {
            put(row, i, sort == BYTES ? (byte) v : sort == SHORTS ? (short) v : v);
        }
    }
}
