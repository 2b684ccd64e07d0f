/**
 * "REFUSALS, of several the first one told: NONE there is no such thing; BAD a number is not as told; STATE as told;
 * FULL. The host's: -11 nothing there, -12 a place outside, -13 of another sort or KIND, -14 a size below 0. They change
 * nothing, but where it is told. What is asked changes nothing, but where it is told."
 * Each call by all twos and threes of numbers at and beyond its bounds: which refusal comes first, and that nothing changes.
 */
public final class RefusalsTest {
    private static final int BAD = SomebodyElseTonight.BAD, STATE = SomebodyElseTonight.STATE, FULL = SomebodyElseTonight.FULL;
    private static final int NO_GUEST = -5, NOT_SO = -7, MISSING = -11, OUTSIDE = -12, OTHER_SORT = -13, BELOW_ZERO = -14;
    private static final int LEAST = Integer.MIN_VALUE, MOST = Integer.MAX_VALUE;

    private static final State NEW = new State("new", SomebodyElseTonight::new);
    private static final State BUSY = new State("busy", () -> busy(1, 0));
    private static final State CROSSED = new State("crossed", () -> busy(0, 4));
    private static final State ALL_FULL = new State("full", RefusalsTest::full);

    private static final int[] NO_GUESTS_OF_FOUR = {LEAST, -1, 4, 5, 6, MOST};
    private static final int[] NO_PAIRS_OF_FOUR = {LEAST, -10, -1, 4, 9, 14, 34, 40, 44, 45, 55, 60, 100, 110, MOST};
    private static final int[] NO_MATTERS = {LEAST, -1, 4, MOST};
    private static final int[] NO_SHEETS = {LEAST, -1, 4, MOST};

    public static void main(String[] args) {
        theLook();
        law();
        guests();
        evening();
        whoCanBeWho();
        best();
        told();
        film();
        lots();
        images();
        sheets();
        copies();
        guestsBy();
        taken();
        asking();
        thereAndBack();
        Due.end("RefusalsTest");
    }

    /** Four guests, three texts, an image of three, half a text on the tape, sheets of each sort; 3 is missing. */
    private static SomebodyElseTonight busy(int guestTold, int matterTold) {
        SomebodyElseTonight x = Due.club(13, 27, 24, 228, 41, 99);
        Due.type(x, "plays 70 - night; costs 3 + matter; owes often;");
        Due.type(x, "plays 80 - 10 * apart; costs 7; owes 2;");
        x.force(1);
        Due.play(x, 1, 2, 0);
        x.live();
        x.image();
        x.guest(52, 130);
        x.set(3, 1, 0);
        x.set(0, 2, 9990);
        x.live();
        Due.feed(x, "plays 7; costs 8; ow");
        fill(x, 0, 0, 1, 2, 3, 0, 0, 0);
        fill(x, 1, 1, 1, 2, 3, 0, 0);
        fill(x, 2, 2, 3 + guestTold, matterTold, 1, 0, 2, 9);
        return x;
    }

    /** Six guests, six texts, a tape of 160 bytes, the last night, sheets of 40. */
    private static SomebodyElseTonight full() {
        SomebodyElseTonight x = Due.club(13, 27, 24, 228);
        x.image();
        for (int g = 2; g < 6; g++) x.guest(11 * g, 40 * g);
        for (int t = 1; t < 6; t++) Due.type(x, "plays 5" + t + ";costs " + t + ";owes 1;");
        Due.play(x, 1, 2, 3, 4, 5, 0);
        for (int n = 0; n < 99; n++) x.live();
        for (int n = 0; n < 32; n++) x.feed(5, 'a', 'b', 'c', 'd', 'e');
        for (int s = 0; s < 3; s++) x.sheet(s, s, 40);
        for (int i = 0; i < 40; i += 3) x.cell(0, i, i);
        return x;
    }

    private static void fill(SomebodyElseTonight x, int s, int sort, int... numbers) {
        x.sheet(s, sort, numbers.length);
        for (int i = 0; i < numbers.length; i++) x.cell(s, i, numbers[i]);
    }

    /** What changes something is seen: else the looks of the tests below would tell nothing. */
    private static void theLook() {
        BUSY.changes("feed", x -> x.feed(1, 32, 0, 0, 0, 0), 21);
        BUSY.changes("text, though it has a FAULT", x -> x.text(), -118);
        BUSY.changes("force", x -> x.force(2), 1);
        BUSY.changes("guest", x -> x.guest(0, 0), 4);
        BUSY.changes("set MANNERS", x -> x.set(0, 0, 28), 27);
        BUSY.changes("set whom", x -> x.set(0, 1, 0), 1);
        BUSY.changes("set PURSE", x -> x.set(2, 2, 0), x -> x.told(2, 4));
        BUSY.changes("live", x -> x.live(), x -> x.evening(0));
        BUSY.changes("film", x -> x.film(2, 0), 13);
        BUSY.changes("lots", x -> x.lots(0), x -> Long.bitCount(x.drawn(0, 0)));
        BUSY.changes("image", x -> x.image(), 4);
        BUSY.changes("back", x -> x.back(), 3);
        BUSY.changes("sheet", x -> x.sheet(0, 1, 6), 1);
        BUSY.changes("sheet, shorter", x -> x.sheet(1, 1, 4), 1);
        BUSY.changes("sheet, missing", x -> x.sheet(2, -1, 0), 1);
        BUSY.changes("cell, the first", x -> x.cell(0, 0, 2), 1);
        BUSY.changes("cell, the last", x -> x.cell(1, 4, 1), 1);
        BUSY.changes("copy", x -> x.copy(0, 0, 0, 2, 2), 2);
        BUSY.changes("guestsBy", x -> x.guestsBy(2, 2, 0, 1), 1);
        ALL_FULL.changes("force", x -> x.force(5), 0);
        ALL_FULL.changes("set MANNERS", x -> x.set(5, 0, 7), 200);
        ALL_FULL.changes("cell, the last", x -> x.cell(2, 39, 1), 1);
        NEW.changes("guest", x -> x.guest(0, 0), 0);
        NEW.changes("live", x -> x.live(), 0);
        NEW.changes("sheet", x -> x.sheet(3, 0, 0), 1);
        NEW.changes("image", x -> x.image(), 0);
    }

    /** Promises 2 to 6. */
    private static void law() {
        for (int what : new int[] {LEAST, -1, 5, MOST}) BUSY.keeps("count " + what, x -> x.count(what), BAD);
        // feed: "BAD: n, any of the five; FULL: they have not all room (none comes)."
        for (int n : new int[] {LEAST, -1, 0, 6, MOST}) {
            BUSY.keeps("feed of " + n, x -> x.feed(n, 1, 1, 1, 1, 1), BAD);
            ALL_FULL.keeps("feed of " + n + ", BAD ahead of FULL", x -> x.feed(n, 1, 1, 1, 1, 1), BAD);
        }
        for (int b : new int[] {LEAST, -1, 256, MOST}) {
            for (int i = 0; i < 5; i++) {
                int place = i;
                BUSY.keeps("feed, byte " + i + " is " + b, x -> fed(x, 1, place, b), BAD);
                ALL_FULL.keeps("feed, byte " + i + " is " + b + ", BAD ahead of FULL", x -> fed(x, 5, place, b), BAD);
            }
        }
        for (int n = 1; n <= 5; n++) {
            int many = n;
            ALL_FULL.keeps("feed of " + n, x -> x.feed(many, 32, 32, 32, 32, 32), FULL);
            State short1 = new State("a tape with " + (n - 1) + " left", () -> tapeOf(161 - many));
            short1.keeps("feed of " + n, x -> x.feed(many, 32, 32, 32, 32, 32), FULL);
        }
        // text: "FULL (ahead of the FAULT; then THE TAPE stays)."
        ALL_FULL.keeps("text of a faulty tape", x -> x.text(), FULL);
        new State("full of texts", () -> sixTexts("plays 1;costs 1;owes 1;")).keeps("text of a good tape", x -> x.text(), FULL);
        new State("full of texts", () -> sixTexts("")).keeps("text of an empty tape", x -> x.text(), FULL);
        NEW.keeps("text of an empty tape", x -> x.text(), -100);
        for (int t : new int[] {LEAST, -1, 3, 6, MOST}) BUSY.keeps("force " + t, x -> x.force(t), BAD);
        for (int t : new int[] {-1, 6, MOST}) ALL_FULL.keeps("force " + t, x -> x.force(t), BAD);
        NEW.keeps("force 1", x -> x.force(1), BAD);
        // asks: BAD, whichever it is.
        for (int part : new int[] {LEAST, -1, 3, MOST}) BUSY.keeps("asks part " + part, x -> x.asks(part, 0, 0), BAD);
        for (int gAs : NO_PAIRS_OF_FOUR) BUSY.keeps("asks of " + gAs, x -> x.asks(0, gAs, 0), BAD);
        for (int m : NO_MATTERS) BUSY.keeps("asks on " + m, x -> x.asks(0, 0, m), BAD);
        NEW.keeps("asks of nobody", x -> x.asks(0, 0, 0), BAD);
        ALL_FULL.keeps("asks of 6", x -> x.asks(0, 60, 0), BAD);
        ALL_FULL.keeps("asks as 6", x -> x.asks(0, 6, 0), BAD);
    }

    private static long fed(SomebodyElseTonight x, int n, int place, int b) {
        int[] five = {32, 32, 32, 32, 32};
        five[place] = b;
        return x.feed(n, five[0], five[1], five[2], five[3], five[4]);
    }

    private static SomebodyElseTonight tapeOf(int size) {
        SomebodyElseTonight x = Due.club(0, 27);
        Due.feed(x, "plays 1;costs 1;owes 1;");
        Due.feed(x, " ".repeat(size - x.count(4)));
        return x;
    }

    private static SomebodyElseTonight sixTexts(String tape) {
        SomebodyElseTonight x = Due.club(0, 27);
        for (int t = 1; t < 6; t++) Due.type(x, "plays 5" + t + ";costs " + t + ";owes 1;");
        Due.feed(x, tape);
        return x;
    }

    /** Promises 7 to 10. */
    private static void guests() {
        for (int kindMore : new int[] {LEAST, -1, 60, MOST}) {
            BUSY.keeps("guest of " + kindMore, x -> x.guest(kindMore, 0), BAD);
            ALL_FULL.keeps("guest of " + kindMore + ", BAD ahead of FULL", x -> x.guest(kindMore, 0), BAD);
        }
        for (int manners : new int[] {LEAST, -1, 256, MOST}) {
            BUSY.keeps("guest with " + manners, x -> x.guest(0, manners), BAD);
            ALL_FULL.keeps("guest with " + manners + ", BAD ahead of FULL", x -> x.guest(0, manners), BAD);
        }
        ALL_FULL.keeps("a seventh guest", x -> x.guest(0, 0), FULL);
        // "-5: no such GUEST; -7: what."
        int[] whats = {LEAST, -1, 6, MOST};
        for (int what : whats) {
            BUSY.keeps("told " + what, x -> x.told(3, what), NOT_SO);
            BUSY.keeps("pair " + what, x -> x.pair(33, what), NOT_SO);
        }
        for (int g : NO_GUESTS_OF_FOUR) {
            BUSY.keeps("told of " + g, x -> x.told(g, 0), NO_GUEST);
            for (int what : whats) BUSY.keeps("told of " + g + ", " + what, x -> x.told(g, what), NO_GUEST);
        }
        for (int gAs : NO_PAIRS_OF_FOUR) {
            BUSY.keeps("pair of " + gAs, x -> x.pair(gAs, 0), NO_GUEST);
            for (int what : whats) BUSY.keeps("pair of " + gAs + ", " + what, x -> x.pair(gAs, what), NO_GUEST);
        }
        setting();
        ALL_FULL.keeps("told of 6", x -> x.told(6, 0), NO_GUEST);
        ALL_FULL.keeps("pair of 60", x -> x.pair(60, 0), NO_GUEST);
        ALL_FULL.keeps("pair of 6", x -> x.pair(6, 0), NO_GUEST);
        NEW.keeps("told of 0", x -> x.told(0, 0), NO_GUEST);
        NEW.keeps("pair of 0", x -> x.pair(0, 0), NO_GUEST);
    }

    /** Promise 10: "-5: no such GUEST; -7: what, v." */
    private static void setting() {
        int[][] noValues = {{LEAST, -1, 256, MOST}, {LEAST, -1, 4, 5, 6, MOST}, {LEAST, -1, 10000, MOST}};
        for (int w = 0; w < 3; w++) {
            int what = w;
            for (int v : noValues[w]) {
                for (int g = 0; g < 4; g++) {
                    int who = g;
                    BUSY.keeps("set " + what + " of " + g + " to " + v, x -> x.set(who, what, v), NOT_SO);
                }
                for (int g : NO_GUESTS_OF_FOUR) BUSY.keeps("set " + what + " of " + g + " to " + v, x -> x.set(g, what, v), NO_GUEST);
            }
            for (int g : NO_GUESTS_OF_FOUR) BUSY.keeps("set " + what + " of " + g, x -> x.set(g, what, 0), NO_GUEST);
        }
        for (int what : new int[] {LEAST, -1, 3, MOST}) {
            BUSY.keeps("set " + what, x -> x.set(0, what, 0), NOT_SO);
            BUSY.keeps("set " + what + " of 4", x -> x.set(4, what, 0), NO_GUEST);
        }
        ALL_FULL.keeps("set whom to 6", x -> x.set(0, 1, 6), NOT_SO);
        NEW.keeps("set of 0", x -> x.set(0, 0, 0), NO_GUEST);
    }

    /** Promises 11 to 15. */
    private static void evening() {
        for (int m : NO_MATTERS) {
            BUSY.keeps("does on " + m, x -> x.does(3, m), NOT_SO);
            BUSY.keeps("would on " + m, x -> x.would(33, m), NOT_SO);
            for (int g : NO_GUESTS_OF_FOUR) BUSY.keeps("does of " + g + " on " + m, x -> x.does(g, m), NO_GUEST);
            for (int gAs : NO_PAIRS_OF_FOUR) BUSY.keeps("would of " + gAs + " on " + m, x -> x.would(gAs, m), NO_GUEST);
        }
        for (int g : NO_GUESTS_OF_FOUR) {
            BUSY.keeps("does of " + g, x -> x.does(g, 0), NO_GUEST);
            BUSY.keeps("known of " + g, x -> x.known(g), NO_GUEST);
        }
        for (int gAs : NO_PAIRS_OF_FOUR) BUSY.keeps("would of " + gAs, x -> x.would(gAs, 0), NO_GUEST);
        for (int what : new int[] {LEAST, -1, 3, MOST}) BUSY.keeps("evening " + what, x -> x.evening(what), BAD);
        NEW.keeps("does of 0", x -> x.does(0, 0), NO_GUEST);
        NEW.keeps("would of 0", x -> x.would(0, 0), NO_GUEST);
        NEW.keeps("known of 0", x -> x.known(0), NO_GUEST);
        ALL_FULL.keeps("known of 6", x -> x.known(6), NO_GUEST);
        // live: "FULL: THE NIGHT is 99."
        ALL_FULL.keeps("live", x -> x.live(), FULL);
    }

    /** Promises 16 to 18. */
    private static void whoCanBeWho() {
        for (int matters : new int[] {LEAST, -1, 16, MOST}) {
            BUSY.keeps("may by " + matters, x -> x.may(0, matters), NOT_SO);
            for (int g : NO_GUESTS_OF_FOUR) BUSY.keeps("may of " + g + " by " + matters, x -> x.may(g, matters), NO_GUEST);
            for (int what = -1; what < 3; what++) {
                int w = what;
                BUSY.keeps("fits by " + matters + ", " + what, x -> x.fits(matters, w), BAD);
                BUSY.keeps("next by " + matters + ", " + what, x -> x.next(matters, w), BAD);
            }
        }
        for (int what : new int[] {LEAST, -1, 2, MOST}) {
            BUSY.keeps("fits, " + what, x -> x.fits(15, what), BAD);
            BUSY.keeps("next, " + what, x -> x.next(15, what), BAD);
        }
        for (int g : NO_GUESTS_OF_FOUR) BUSY.keeps("may of " + g, x -> x.may(g, 15), NO_GUEST);
        NEW.keeps("may of 0", x -> x.may(0, 0), NO_GUEST);
    }

    /** Promises 20 to 24. */
    private static void best() {
        for (int goal : new int[] {LEAST, -1, 3, MOST}) {
            for (int w = -1; w < 3; w++) {
                int what = w;
                BUSY.keeps("best " + goal + ", " + what, x -> x.best(goal, what), BAD);
            }
        }
        for (int what : new int[] {LEAST, -1, 2, MOST}) {
            for (int goal = 0; goal < 3; goal++) {
                int which = goal;
                BUSY.keeps("best " + goal + ", " + what, x -> x.best(which, what), BAD);
            }
            BUSY.keeps("learns " + what, x -> x.learns(3, what), NOT_SO);
            for (int g : NO_GUESTS_OF_FOUR) BUSY.keeps("learns of " + g + ", " + what, x -> x.learns(g, what), NO_GUEST);
        }
        for (int depth : new int[] {LEAST, -1, 100, MOST}) {
            BUSY.keeps("chain " + depth + " deep", x -> x.chain(3, depth), NOT_SO);
            for (int g : NO_GUESTS_OF_FOUR) BUSY.keeps("chain of " + g + ", " + depth + " deep", x -> x.chain(g, depth), NO_GUEST);
        }
        int[] depths = {LEAST, -1, 0, 20, 21, MOST};
        int[] matters = {LEAST, -1, 0, 3, 4, MOST};
        for (int depth : depths) {
            for (int m : matters) {
                boolean good = depth >= 0 && depth <= 20 && m >= 0 && m <= 3;
                if (!good) BUSY.keeps("asIf on " + m + ", " + depth + " deep", x -> x.asIf(3, m, depth), NOT_SO);
                for (int g : NO_GUESTS_OF_FOUR) BUSY.keeps("asIf of " + g + " on " + m, x -> x.asIf(g, m, depth), NO_GUEST);
            }
        }
        for (int g : NO_GUESTS_OF_FOUR) {
            BUSY.keeps("chain of " + g, x -> x.chain(g, 0), NO_GUEST);
            BUSY.keeps("ring of " + g, x -> x.ring(g), NO_GUEST);
            BUSY.keeps("learns of " + g, x -> x.learns(g, 0), NO_GUEST);
        }
        NEW.keeps("chain of 0", x -> x.chain(0, 0), NO_GUEST);
        NEW.keeps("ring of 0", x -> x.ring(0), NO_GUEST);
        NEW.keeps("asIf of 0", x -> x.asIf(0, 0, 0), NO_GUEST);
        NEW.keeps("learns of 0", x -> x.learns(0, 0), NO_GUEST);
    }

    /** A call by a sheet and perhaps a guest and what. */
    private interface ByTold {
        long of(SomebodyElseTonight x, int s, int g, int what);
    }

    /** Promises 25 to 29: "BAD: SHEET; -11; BAD: its size isn't by threes, no such GUEST, MATTER told; -5; -7." */
    private static void told() {
        byTold("judge", (x, s, g, what) -> x.judge(s, g), true, 0);
        byTold("kinds", (x, s, g, what) -> x.kinds(s, g, what), true, 2);
        byTold("manners", (x, s, g, what) -> x.manners(s, g, what), true, 6);
        byTold("whose", (x, s, g, what) -> x.whose(s), false, 0);
        byTold("laws", (x, s, g, what) -> x.laws(s, g), true, 0);
    }

    /** Below whats the last number is as told; 0: there is none. */
    private static void byTold(String call, ByTold c, boolean ofGuest, int whats) {
        int[] guests = {LEAST, -1, 0, 3, 4, 6, MOST};
        int[] lasts = {LEAST, -1, 0, Math.max(0, whats - 1), whats, MOST};
        for (int g : guests) {
            for (int what : lasts) {
                String of = call + " of " + g + ", " + what + " by ";
                for (int s : NO_SHEETS) BUSY.keeps(of + s, x -> c.of(x, s, g, what), BAD);
                BUSY.keeps(of + "a missing one", x -> c.of(x, 3, g, what), MISSING);
                BUSY.keeps(of + "five numbers", x -> c.of(x, 1, g, what), BAD);
                BUSY.keeps(of + "a guest there is not", x -> c.of(x, 2, g, what), BAD);
                CROSSED.keeps(of + "a matter there is not", x -> c.of(x, 2, g, what), BAD);
                boolean noGuest = ofGuest && (g < 0 || g > 3);
                boolean noWhat = whats > 0 && (what < 0 || what >= whats);
                if (noGuest) BUSY.keeps(of + "a good one", x -> c.of(x, 0, g, what), NO_GUEST);
                else if (noWhat) BUSY.keeps(of + "a good one", x -> c.of(x, 0, g, what), NOT_SO);
                else BUSY.stays(of + "a good one", x -> c.of(x, 0, g, what));
            }
        }
        byPlace(call, c);
    }

    /** Each place of a sheet that may tell what there is not, and each size. */
    private static void byPlace(String call, ByTold c) {
        for (int size = 0; size <= 40; size++) {
            SomebodyElseTonight x = Due.club(0, 0, 0, 0);
            x.sheet(0, 1, size);
            long got = c.of(x, 0, 0, 0);
            if (size % 3 != 0) Due.is(call + " by " + size + " numbers", got, BAD);
            else if (got < -1) Due.is(call + " by " + size + " numbers", got, 0);
        }
        for (int i = 0; i < 39; i++) {
            for (int v : new int[] {LEAST, -1, i % 3 == 0 ? 2 : 4, MOST}) {
                SomebodyElseTonight x = Due.club(0, 0, 0, 0);
                x.sheet(0, 2, 39);
                x.cell(0, i, v);
                long got = c.of(x, 0, 0, 0);
                if (i % 3 != 2) Due.is(call + ", place " + i + " is " + v, got, BAD);
                else if (got < -1) Due.is(call + ", place " + i + " is " + v, got, 0);
            }
        }
    }

    /** Promise 30: "BAD: SHEET; -5: no such GUEST." */
    private static void film() {
        for (int g : new int[] {LEAST, -1, 0, 4, MOST}) {
            for (int s : NO_SHEETS) BUSY.keeps("film " + s + " of " + g, x -> x.film(s, g), BAD);
        }
        for (int g : NO_GUESTS_OF_FOUR) {
            for (int s = 0; s < 4; s++) {
                int which = s;
                BUSY.keeps("film " + s + " of " + g, x -> x.film(which, g), NO_GUEST);
            }
        }
        ALL_FULL.keeps("film of 6", x -> x.film(0, 6), NO_GUEST);
        NEW.keeps("film of nobody", x -> x.film(0, 0), NO_GUEST);
    }

    /** Promises 31 to 34. */
    private static void lots() {
        long no = SomebodyElseTonight.NO;
        for (int seed : new int[] {LEAST, -1, 100000, MOST}) {
            for (int what = -1; what < 5; what++) {
                int w = what;
                BUSY.keeps("drawn by " + seed + ", " + what, x -> x.drawn(seed, w), BAD);
            }
            BUSY.keeps("lots by " + seed, x -> x.lots(seed), BAD);
            NEW.keeps("lots by " + seed, x -> x.lots(seed), BAD);
            for (int seeds = 0; seeds <= 100; seeds += 50) {
                int many = seeds;
                for (int part = -1; part < 3; part++) {
                    int p = part;
                    BUSY.keeps("odds from " + seed + " of " + seeds, x -> x.odds(seed, many, p), no);
                }
            }
        }
        for (int what : new int[] {LEAST, -1, 4, MOST}) BUSY.keeps("drawn " + what, x -> x.drawn(0, what), BAD);
        for (int seeds : new int[] {LEAST, -1, 0, 100, MOST}) BUSY.keeps("odds of " + seeds, x -> x.odds(0, seeds, 0), no);
        for (int part : new int[] {LEAST, -1, 2, MOST}) {
            BUSY.keeps("odds, part " + part, x -> x.odds(0, 1, part), no);
            BUSY.keeps("chance, part " + part, x -> x.chance(0, part), no);
        }
        for (int many : new int[] {LEAST, -1, 5, 6, 7, MOST}) BUSY.keeps("chance of " + many, x -> x.chance(many, 0), no);
        for (int many : new int[] {-1, 1}) NEW.keeps("chance of " + many, x -> x.chance(many, 1), no);
        for (int many : new int[] {-1, 7}) ALL_FULL.keeps("chance of " + many, x -> x.chance(many, 0), no);
    }

    /** Promise 36: "STATE: there is none." */
    private static void images() {
        NEW.keeps("back", x -> x.back(), STATE);
        State none = new State("no image", () -> Due.club(0, 1, 12, 34));
        none.keeps("back", x -> x.back(), STATE);
    }

    /** Promises 37 and 38. */
    private static void sheets() {
        int[] sorts = {LEAST, -2, -1, 0, 1, 2, 3, MOST};
        int[] sizes = {LEAST, -1, 0, 40, 41, MOST};
        for (int sort : sorts) {
            for (int n : sizes) {
                String call = "sheet of sort " + sort + " and size " + n;
                for (int s : NO_SHEETS) BUSY.keeps(call, x -> x.sheet(s, sort, n), BAD);
                boolean good = sort >= -1 && sort <= 2;
                for (int s = 0; s < 4; s++) {
                    int which = s;
                    if (!good || sort >= 0 && n > 40) BUSY.keeps(call, x -> x.sheet(which, sort, n), BAD);
                    else if (sort >= 0 && n < 0) BUSY.keeps(call, x -> x.sheet(which, sort, n), BELOW_ZERO);
                    else Due.is(call, busy(1, 0).sheet(which, sort, n), 1);
                }
            }
        }
        int[] sizesOf = {6, 5, 6};
        for (int i : new int[] {LEAST, -1, 0, 5, 6, 40, MOST}) {
            for (int s : NO_SHEETS) BUSY.keeps("cell " + i + " of " + s, x -> x.cell(s, i, 1), BAD);
            BUSY.keeps("cell " + i + " of a missing one", x -> x.cell(3, i, 1), MISSING);
            for (int s = 0; s < 3; s++) {
                int which = s;
                if (i < 0 || i >= sizesOf[s]) BUSY.keeps("cell " + i + " of " + s, x -> x.cell(which, i, 1), OUTSIDE);
                else Due.is("cell " + i + " of " + s, busy(1, 0).cell(which, i, 1), 1);
            }
        }
        ALL_FULL.keeps("cell 40", x -> x.cell(2, 40, 1), OUTSIDE);
        State empty = new State("a sheet of none", () -> Due.club(0, 0));
        empty.keeps("cell of a missing one", x -> x.cell(0, 0, 1), MISSING);
        Due.is("cell of an empty one", emptySheet().cell(0, 0, 1), OUTSIDE);
    }

    private static SomebodyElseTonight emptySheet() {
        SomebodyElseTonight x = new SomebodyElseTonight();
        x.sheet(0, 0, 0);
        return x;
    }

    /** Promise 39: "BAD: SHEETS; -11; -13: unlike sorts; -12 (n below 0, too)." */
    private static void copies() {
        int[] sheets = {LEAST, -1, 0, 1, 2, 3, 4, MOST};
        int[] sizesOf = {6, 5, 6};
        for (int s : sheets) {
            for (int other : sheets) {
                for (int[] ijn : new int[][] {{0, 0, 1}, {-1, 0, 1}, {0, 0, -1}, {LEAST, MOST, LEAST}}) {
                    int due;
                    if (s < 0 || s > 3 || other < 0 || other > 3) due = BAD;
                    else if (s == 3 || other == 3) due = MISSING;
                    else if (s != other) due = OTHER_SORT;
                    else if (ijn[0] < 0 || ijn[2] < 0) due = OUTSIDE;
                    else continue;
                    BUSY.keeps("copy of " + s + " to " + other, x -> x.copy(s, ijn[0], other, ijn[1], ijn[2]), due);
                }
            }
        }
        int[] places = {LEAST, -1, 0, 1, 4, 5, 6, 7, MOST};
        for (int s = 0; s < 3; s++) {
            int which = s;
            int size = sizesOf[s];
            for (int i : places) {
                for (int j : places) {
                    for (int n : new int[] {LEAST, -1, 0, 1, 5, 6, 7, MOST}) {
                        boolean inside = i >= 0 && j >= 0 && n >= 0 && (long) i + n <= size && (long) j + n <= size;
                        String call = "copy in " + s + " of " + n + " from " + i + " to " + j;
                        if (inside) Due.is(call, busy(1, 0).copy(which, i, which, j, n), n);
                        else BUSY.keeps(call, x -> x.copy(which, i, which, j, n), OUTSIDE);
                    }
                }
            }
        }
    }

    /** Promise 40: "BAD: SHEET, sort, n; -11; -13; -12: what stood ahead came." */
    private static void guestsBy() {
        int[] sheets = {LEAST, -1, 0, 1, 2, 3, 4, MOST};
        int[] sorts = {LEAST, -1, 0, 1, 2, 3, MOST};
        for (int s : sheets) {
            for (int sort : sorts) {
                for (int at : new int[] {LEAST, -2, -1, 5, 6, 40, MOST}) {
                    for (int n : new int[] {LEAST, -1, 1, 6, 7, MOST}) {
                        int due;
                        if (s < 0 || s > 3 || sort < 0 || sort > 2 || n < 0 || n > 6) due = BAD;
                        else if (s == 3) due = MISSING;
                        else if (s != sort) due = OTHER_SORT;
                        else due = OUTSIDE;
                        BUSY.keeps("guestsBy " + s + " of " + sort + " from " + at, x -> x.guestsBy(s, sort, at, n), due);
                    }
                }
            }
        }
        BUSY.keeps("guestsBy of none", x -> x.guestsBy(2, 2, 0, 0), 0);
        // "(others are left out)", and "what stood ahead came" ahead of a place outside.
        BUSY.changes("guestsBy that comes to the end", x -> x.guestsBy(0, 0, 4, 2), OUTSIDE);
        ALL_FULL.keeps("guestsBy, no room", x -> x.guestsBy(0, 0, 0, 6), 0);
        ALL_FULL.keeps("guestsBy, no room and outside", x -> x.guestsBy(0, 0, 38, 2), OUTSIDE);
    }

    /** Promise 41: "BAD: kind; -12: i; -11: nothing lies there; -13." */
    private static void taken() {
        for (int i : new int[] {LEAST, -1, 0, 3, 4, 5, 6, 9, 10, 11, 12, MOST}) {
            for (int kind : new int[] {LEAST, -1, 7, MOST}) BUSY.keeps("taken " + i + " for " + kind, x -> x.taken(i, kind), BAD);
            for (int kind = 0; kind < 7; kind++) {
                int k = kind;
                String call = "taken " + i + " for " + kind;
                if (i < 0 || i > 11) BUSY.keeps(call, x -> x.taken(i, k), OUTSIDE);
                else if (i % 6 > 3) BUSY.keeps(call, x -> x.taken(i, k), MISSING);
                else if (i < 6 == (kind == 6)) BUSY.keeps(call, x -> x.taken(i, k), OTHER_SORT);
                else BUSY.stays(call, x -> x.taken(i, k));
            }
        }
        for (int i = 0; i < 12; i++) {
            int place = i;
            for (int kind = 0; kind < 7; kind++) {
                int k = kind;
                NEW.keeps("taken " + i + " for " + kind, x -> x.taken(place, k), MISSING);
            }
        }
    }

    /** What is told to change is all that changes: what one call does another one takes back. */
    private static void thereAndBack() {
        for (int w = 0; w < 3; w++) {
            int what = w;
            for (int g = 0; g < 4; g++) {
                int who = g;
                BUSY.stays("set there and back", x -> {
                    int was = x.set(who, what, 1);
                    return x.set(who, what, was);
                });
            }
        }
        BUSY.keeps("force there and back", x -> x.force(x.force(2)), 2);
        BUSY.keeps("cell there and back", x -> 10 * x.cell(0, 0, 2) + x.cell(0, 0, 1), 11);
        BUSY.keeps("sheet there and back", x -> 10 * x.sheet(3, 1, 40) + x.sheet(3, -1, 0), 11);
        BUSY.keeps("film and no sheet", x -> 10 * x.film(3, 2) + x.sheet(3, -1, 0), 131);
        BUSY.keeps("copy onto itself", x -> x.copy(0, 0, 0, 0, 6), 6);
        BUSY.keeps("copy of none", x -> x.copy(1, 5, 1, 0, 0), 0);
        BUSY.stays("lots, and as they were", x -> {
            int[] whom = new int[4];
            for (int g = 0; g < 4; g++) whom[g] = x.told(g, 3);
            x.lots(77);
            for (int g = 0; g < 4; g++) x.set(g, 1, whom[g]);
            return 0;
        });
        NEW.keeps("feed and text", x -> 1000 * x.feed(2, 'a', 'b', 0, 0, 0) + x.text(), 1900);
        BUSY.keeps("sheet made anew", x -> x.sheet(1, 1, 5) + x.cell(1, 0, 1) + x.cell(1, 1, 2) + x.cell(1, 2, 3), 4);
        State kept = new State("kept", () -> imaged());
        kept.keeps("image again", x -> x.image(), 4);
        kept.keeps("back at once", x -> x.back(), 4);
        kept.keeps("all that an image keeps, and back", x -> {
            x.guest(40, 7);
            for (int g = 0; g < 5; g++) {
                x.set(g, 0, 99 - g);
                x.set(g, 1, 4);
                x.set(g, 2, 50 + g);
            }
            x.live();
            x.lots(3);
            x.live();
            x.force(2);
            return x.back();
        }, 4);
    }

    private static SomebodyElseTonight imaged() {
        SomebodyElseTonight x = busy(1, 0);
        x.image();
        return x;
    }

    /** "What is asked changes nothing": by numbers that are as told. */
    private static void asking() {
        for (State state : new State[] {NEW, BUSY, ALL_FULL}) {
            for (int w = 0; w < 6; w++) {
                int n = w;
                state.stays("count", x -> x.count(n));
                state.stays("asks", x -> x.asks(n % 3, 12, n & 3));
                state.stays("told", x -> x.told(1, n));
                state.stays("pair", x -> x.pair(12, n));
                state.stays("does", x -> x.does(n, n & 3));
                state.stays("would", x -> x.would(10 * n + 1, n & 3));
                state.stays("known", x -> x.known(n));
                state.stays("evening", x -> x.evening(n % 3));
                state.stays("may", x -> x.may(n, 5));
                state.stays("fits", x -> x.fits(3 * n, n & 1));
                state.stays("next", x -> x.next(3 * n, n & 1));
                state.stays("fewest", x -> x.fewest());
                state.stays("best", x -> x.best(n % 3, n & 1));
                state.stays("chain", x -> x.chain(n, 7 * n));
                state.stays("ring", x -> x.ring(n));
                state.stays("asIf", x -> x.asIf(n, n & 3, 4 * n));
                state.stays("learns", x -> x.learns(n, n & 1));
                state.stays("judge", x -> x.judge(0, n));
                state.stays("kinds", x -> x.kinds(0, n, n & 1));
                state.stays("manners", x -> x.manners(0, n, n));
                state.stays("whose", x -> x.whose(n));
                state.stays("laws", x -> x.laws(0, n));
                state.stays("drawn", x -> x.drawn(20000 * n - n, n & 3));
                state.stays("odds", x -> x.odds(20000 * n - n, 20 * n - 1, n & 1));
                state.stays("chance", x -> x.chance(n, n & 1));
                state.stays("taken", x -> x.taken(2 * n, n));
            }
        }
    }
}
