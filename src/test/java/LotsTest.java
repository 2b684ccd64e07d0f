/** Promises 31 to 36: lots, and images. */
public final class LotsTest {
    private static final int BAD = SomebodyElseTonight.BAD, STATE = SomebodyElseTonight.STATE;
    private static final long NO = SomebodyElseTonight.NO;

    public static void main(String[] args) {
        drawing();
        lotsTruly();
        odds();
        chances();
        images();
        Due.end("LotsTest");
    }

    private static SomebodyElseTonight six() {
        return Due.club(0, 0, 0, 85, 0, 170, 0, 255, 0, 0, 0, 21);
    }

    /**
     * Promise 31: "By LOTS, in thought: what 0 who plays oneself (bits), 1 how many are KNOWN, 2 evening(2), 3 the DRAW (digits). BAD."
     * "LOTS by a SEED (0 .. 99999)": by SEED 7 the LOTS are 386168, 1460846352 (386168 * 48271 less 8 times 2147483647), ..
     */
    private static void drawing() {
        SomebodyElseTonight x = Due.club(0, 0, 0, 64, 0, 128);
        Due.is("three by 7", x.drawn(7, 3), 213);
        Due.is("three by 7, themselves", x.drawn(7, 0), 4);
        // By SEED 0: 48271 modulo 3 is 1, 2 and 1 change: 0 2 1; 48271 squared, 182605794, modulo 2 is 0: 2 0 1.
        Due.is("three by 0", x.drawn(0, 3), 312);
        Due.is("three by 0, themselves", x.drawn(0, 0), 0);
        // By SEED 1: 96542 modulo 3 is 2; 365211588 modulo 2 is 0: 1 0 2.
        Due.is("three by 1", x.drawn(1, 3), 213);
        Due.law(x, "plays 49; costs 10 * more + 3; owes 0;");
        Due.is("three by 0, known", x.drawn(0, 1), 3);
        Due.is("three by 0, costs", x.drawn(0, 2), 9);
        Due.is("three by 1, known", x.drawn(1, 1), 2);
        Due.is("three by 1, costs", x.drawn(1, 2), 6);
        Due.is("in thought", x.told(0, 3), 0);
        Due.is("drawn(99999, 0)", x.drawn(99999, 0) >= 0 ? 1 : 0, 1);
        Due.is("drawn(100000, 0)", x.drawn(100000, 0), BAD);
        Due.is("drawn(-1, 0)", x.drawn(-1, 0), BAD);
        Due.is("drawn(0, 4)", x.drawn(0, 4), BAD);
        Due.is("drawn(0, -1)", x.drawn(0, -1), BAD);
        Due.is("nobody", new SomebodyElseTonight().drawn(0, 3), 0);
        Due.is("one", Due.club(0, 0).drawn(0, 0), 1);
        SomebodyElseTonight y = six();
        for (int seed = 0; seed < 100; seed++) Due.is("six by " + (seed * 1009), y.drawn(seed * 1009 % 100000, 3), slowly(seed * 1009 % 100000));
        Due.is("six by 99999", y.drawn(99999, 3), slowly(99999));
    }

    /** The draw of six by LOTS, by numbers of any size. */
    private static int slowly(int seed) {
        int[] whom = {0, 1, 2, 3, 4, 5};
        java.math.BigInteger lot = java.math.BigInteger.valueOf(seed + 1);
        for (int k = 5; k > 0; k--) {
            lot = lot.multiply(java.math.BigInteger.valueOf(48271)).mod(java.math.BigInteger.valueOf(2147483647));
            int j = lot.mod(java.math.BigInteger.valueOf(k + 1)).intValue();
            int was = whom[k];
            whom[k] = whom[j];
            whom[j] = was;
        }
        int digits = 0;
        for (int w : whom) digits = 10 * digits + w + 1;
        return digits;
    }

    /** Promise 32: "By LOTS, truly: how many play themselves. BAD."; "each PLAYS oneself first". */
    private static void lotsTruly() {
        SomebodyElseTonight x = Due.club(0, 0, 0, 64, 0, 128);
        Due.play(x, 2, 2, 2);
        Due.is("lots(7)", x.lots(7), 1);
        Due.is("0 plays", x.told(0, 3), 1);
        Due.is("1 plays", x.told(1, 3), 0);
        Due.is("2 plays", x.told(2, 3), 2);
        Due.is("lots(0)", x.lots(0), 0);
        Due.is("0 plays", x.told(0, 3), 2);
        Due.is("1 plays", x.told(1, 3), 0);
        Due.is("2 plays", x.told(2, 3), 1);
        Due.is("lots(100000)", x.lots(100000), BAD);
        Due.is("lots(-1)", x.lots(-1), BAD);
        Due.is("0 plays", x.told(0, 3), 2);
        Due.is("nobody", new SomebodyElseTonight().lots(99999), 0);
    }

    /**
     * Promise 33: "In how many of so many (1 .. 99) seeds, SEED and each 1 more (they may pass 99999), nobody plays oneself:
     * part 0 above, 1 below the line, in lowest terms. NO: none such."
     */
    private static void odds() {
        SomebodyElseTonight x = six();
        int[] seeds = {0, 17, 99950};
        for (int first : seeds) {
            int many = 0;
            for (int n = 1; n <= 99; n++) {
                int digits = slowly(first + n - 1);
                boolean self = false;
                for (int g = 5; g >= 0; g--, digits /= 10) self |= digits % 10 == g + 1;
                if (!self) many++;
                long by = java.math.BigInteger.valueOf(many).gcd(java.math.BigInteger.valueOf(n)).longValue();
                Due.is("odds of " + n + " from " + first + ", above", x.odds(first, n, 0), many / by);
                Due.is("odds of " + n + " from " + first + ", below", x.odds(first, n, 1), n / by);
                if (n == 50) x = six();
            }
            x = six();
        }
        Due.is("beyond 99999", x.odds(99999, 99, 1) > 0 ? 1 : 0, 1);
        Due.is("odds(100000, 1, 0)", x.odds(100000, 1, 0), NO);
        Due.is("odds(-1, 1, 0)", x.odds(-1, 1, 0), NO);
        Due.is("odds(0, 0, 0)", x.odds(0, 0, 0), NO);
        Due.is("odds(0, 100, 0)", x.odds(0, 100, 0), NO);
        Due.is("odds(0, 1, 2)", x.odds(0, 1, 2), NO);
        Due.is("odds(0, 1, -1)", x.odds(0, 1, -1), NO);
        Due.is("nobody", new SomebodyElseTonight().odds(0, 60, 1), 1);
        Due.is("nobody", new SomebodyElseTonight().odds(0, 60, 0), 1);
        Due.is("one alone", Due.club(0, 0).odds(0, 60, 0), 0);
        Due.is("one alone", Due.club(0, 0).odds(0, 60, 1), 1);
        Due.is("in thought", x.told(0, 3), 0);
    }

    private static void chance(int guests, int many, long above, long below) {
        SomebodyElseTonight x = new SomebodyElseTonight();
        for (int g = 0; g < guests; g++) x.guest(0, 0);
        Due.is("chance of " + many + " among " + guests + ", above", x.chance(many, 0), above);
        Due.is("chance of " + many + " among " + guests + ", below", x.chance(many, 1), below);
    }

    /**
     * Promise 34: "Of all DRAWS (no two the same) those in which just so many (0 .. how many GUESTS there are) play themselves:
     * part 0 above, 1 below the line, in lowest terms. NO: none such."
     */
    private static void chances() {
        chance(0, 0, 1, 1);
        chance(1, 0, 0, 1);
        chance(1, 1, 1, 1);
        chance(2, 0, 1, 2);
        chance(2, 1, 0, 1);
        chance(2, 2, 1, 2);
        chance(3, 0, 1, 3);
        chance(3, 1, 1, 2);
        chance(3, 3, 1, 6);
        chance(4, 0, 3, 8);
        chance(4, 1, 1, 3);
        chance(4, 2, 1, 4);
        chance(4, 3, 0, 1);
        chance(4, 4, 1, 24);
        chance(5, 0, 11, 30);
        chance(5, 1, 3, 8);
        chance(5, 2, 1, 6);
        chance(5, 3, 1, 12);
        chance(6, 0, 53, 144);
        chance(6, 1, 11, 30);
        chance(6, 2, 3, 16);
        chance(6, 3, 1, 18);
        chance(6, 4, 1, 48);
        chance(6, 5, 0, 1);
        chance(6, 6, 1, 720);
        for (int n = 0; n <= 6; n++) {
            int[] draws = new int[n + 1];
            counted(n, 0, 0, draws, 0);
            int all = 0;
            for (int d : draws) all += d;
            for (int many = 0; many <= n; many++) {
                int by = java.math.BigInteger.valueOf(draws[many]).gcd(java.math.BigInteger.valueOf(all)).intValue();
                chance(n, many, draws[many] / by, all / by);
            }
            chance(n, -1, NO, NO);
            chance(n, n + 1, NO, NO);
        }
        chance(2, 3, NO, NO);
        chance(2, -1, NO, NO);
        chance(0, 1, NO, NO);
        Due.is("chance(0, 2)", six().chance(0, 2), NO);
        Due.is("chance(0, -1)", six().chance(0, -1), NO);
    }

    /** Counts the draws of n by how many play themselves: guest g on, those of bits are played already. */
    private static void counted(int n, int g, int played, int[] draws, int themselves) {
        if (g == n) {
            draws[themselves]++;
            return;
        }
        for (int as = 0; as < n; as++) {
            if ((played >> as & 1) == 0) counted(n, g + 1, played | 1 << as, draws, themselves + (as == g ? 1 : 0));
        }
    }

    /**
     * Promise 35: "AN IMAGE is kept: how many GUESTS."
     * Promise 36: "All that it keeps is as in THE IMAGE, GUESTS that came since are none: how many there are. STATE: there is none."
     * "AN IMAGE keeps MANNERS, whom all PLAY, PURSES, OFTEN, how many GUESTS there are, THE NIGHT, THE LAW.": and nothing else.
     */
    private static void images() {
        SomebodyElseTonight x = Due.club(13, 7, 0, 255);
        Due.is("back() ahead of all", x.back(), STATE);
        Due.type(x, "plays 1; costs 1; owes 1;");
        for (int n = 0; n < 3; n++) x.live();
        x.set(0, 1, 1);
        x.live();
        Due.is("image()", x.image(), 2);
        int purse0 = x.told(0, 4);
        x.guest(20, 9);
        x.set(0, 0, 8);
        x.set(0, 1, 2);
        x.set(2, 1, 0);
        x.set(0, 2, 1);
        x.set(1, 2, 2);
        x.force(1);
        x.live();
        x.set(0, 1, 0);
        x.live();
        Due.type(x, "plays 2; costs 2; owes 2;");
        Due.feed(x, "ab");
        Due.tell(x, 0, 1, 2, 3);
        for (int times = 0; times < 2; times++) {
            Due.is("back()", x.back(), 2);
            Due.is("GUESTS", x.count(0), 2);
            Due.is("THE NIGHT", x.count(1), 4);
            Due.is("TEXTS stay", x.count(2), 3);
            Due.is("THE LAW", x.count(3), 0);
            Due.is("THE TAPE stays", x.count(4), 2);
            Due.is("SHEETS stay", x.cell(0, 2, 3), 1);
            Due.is("KIND", x.told(0, 0), 1);
            Due.is("MORE", x.told(0, 1), 3);
            Due.is("MANNERS", x.told(0, 2), 7);
            Due.is("whom", x.told(0, 3), 1);
            Due.is("PURSE", x.told(0, 4), purse0);
            Due.is("OFTEN", x.pair(1, 1), 1);
            Due.is("OFTEN", x.pair(11, 1), 4);
            Due.is("OFTEN", x.pair(0, 1), 3);
            Due.is("OFTEN", x.pair(10, 1), 0);
            Due.is("none", x.told(2, 0), -5);
            Due.is("one comes again", x.guest(35, 17), 2);
            Due.is("as one comes", x.told(2, 3), 2);
            Due.is("as one comes", x.told(2, 4), 100);
            Due.is("as one comes", x.told(2, 0), 3);
            Due.is("as one comes", x.pair(22, 1), 0);
            Due.is("as one comes", x.pair(20, 1), 0);
            Due.is("as one comes", x.pair(2, 1), 0);
            x.set(2, 1, 0);
            x.set(0, 1, 2);
            x.live();
        }
        Due.is("a later image", x.image(), 3);
        x.live();
        Due.is("back() to the later one", x.back(), 3);
        Due.is("THE NIGHT", x.count(1), 5);
        Due.is("whom", x.told(0, 3), 2);
        Due.is("OFTEN", x.pair(2, 1), 1);
    }
}
