/** Promises 7 to 10: guests. */
public final class GuestsTest {
    private static final int BAD = SomebodyElseTonight.BAD, FULL = SomebodyElseTonight.FULL;

    public static void main(String[] args) {
        coming();
        telling();
        wells();
        wellsByMatter();
        setting();
        Due.end("GuestsTest");
    }

    /** Promise 7: "A GUEST (kindMore: 10 times KIND, and MORE; MANNERS): the number. BAD; FULL." */
    private static void coming() {
        SomebodyElseTonight x = new SomebodyElseTonight();
        Due.is("guest(0, 0)", x.guest(0, 0), 0);
        Due.is("guest(59, 255)", x.guest(59, 255), 1);
        Due.is("guest(-1, 0)", x.guest(-1, 0), BAD);
        Due.is("guest(60, 0)", x.guest(60, 0), BAD);
        Due.is("guest(0, -1)", x.guest(0, -1), BAD);
        Due.is("guest(0, 256)", x.guest(0, 256), BAD);
        for (int g = 2; g < 6; g++) Due.is("guest(10, 7)", x.guest(10, 7), g);
        Due.is("guest beyond the last", x.guest(10, 7), FULL);
        Due.is("BAD ahead of FULL", x.guest(60, 7), BAD);
        Due.is("count(0)", x.count(0), 6);
        for (int g = 0; g < 6; g++) Due.is("plays oneself", x.told(g, 3), g);
    }

    /** Promise 8: "0 KIND, 1 MORE, 2 MANNERS, 3 whom one PLAYS, 4 PURSE, 5 from how WELL on it PASSES. -5: no such GUEST; -7: what." */
    private static void telling() {
        int[] kindMores = {4, 19, 23, 37, 48, 56};
        int[] passes = {50, 50, 56, 50, 66, 50};
        SomebodyElseTonight x = new SomebodyElseTonight();
        for (int g = 0; g < 6; g++) x.guest(kindMores[g], 40 * g + 3);
        for (int g = 0; g < 6; g++) {
            Due.is("KIND", x.told(g, 0), g);
            Due.is("MORE", x.told(g, 1), kindMores[g] % 10);
            Due.is("MANNERS", x.told(g, 2), 40 * g + 3);
            Due.is("whom", x.told(g, 3), g);
            Due.is("PURSE", x.told(g, 4), 100);
            Due.is("from how WELL on", x.told(g, 5), passes[g]);
        }
        Due.is("told(6, 0)", x.told(6, 0), -5);
        Due.is("told(-1, 0)", x.told(-1, 0), -5);
        Due.is("told(0, 6)", x.told(0, 6), -7);
        Due.is("told(0, -1)", x.told(0, -1), -7);
        Due.is("told(6, 6): the guest first", x.told(6, 6), -5);
        Due.is("told(5, 0) of three", Due.club(0, 0, 0, 0, 0, 0).told(5, 0), -5);
    }

    /** How WELL a guest of a kind (MORE 4: the text says 72) plays those that are 0 .. 4 apart. */
    private static void wellsOf(int kind, int... due) {
        int[] others = {0, 1, 5, 21, 85};
        for (int apart = 0; apart < 5; apart++) {
            SomebodyElseTonight x = Due.club(10 * kind + 4, 0, 0, others[apart]);
            Due.is("apart", x.pair(1, 0), apart);
            for (int what = 2; what < 6; what++) Due.is("KIND " + kind + ", " + apart + " apart", x.pair(1, what), due[apart]);
        }
    }

    /** Promise 9: "0 APART, 1 OFTEN, 2 .. 5 how WELL on MATTER what less 2. -5: no such GUESTS; -7: what." */
    private static void wells() {
        wellsOf(0, 72, 62, 52, 42, 32);
        wellsOf(1, 72, 67, 62, 57, 52);
        wellsOf(2, 72, 62, 52, 42, 32);
        wellsOf(3, 72, 67, 62, 96, 96);
        wellsOf(4, 76, 66, 56, 46, 36);
        wellsOf(5, 100, 20, 17, 14, 10);
        SomebodyElseTonight x = Due.club(3, 0b00_01_10_11, 4, 0b11_01_00_11, 5, 0b01_10_11_00);
        Due.is("pair(1, 0)", x.pair(1, 0), 2);
        Due.is("pair(10, 0)", x.pair(10, 0), 2);
        Due.is("pair(2, 0)", x.pair(2, 0), 4);
        Due.is("pair(22, 0)", x.pair(22, 0), 0);
        Due.is("pair(3, 0)", x.pair(3, 0), -5);
        Due.is("pair(30, 0)", x.pair(30, 0), -5);
        Due.is("pair(-1, 0)", x.pair(-1, 0), -5);
        Due.is("pair(-10, 0)", x.pair(-10, 0), -5);
        Due.is("pair(100, 0)", x.pair(100, 0), -5);
        Due.is("pair(0, 6)", x.pair(0, 6), -7);
        Due.is("pair(0, -1)", x.pair(0, -1), -7);
        Due.is("pair(3, 6): the guests first", x.pair(3, 6), -5);
        x.set(0, 1, 2);
        x.live();
        x.set(0, 1, 1);
        x.live();
        x.live();
        Due.is("OFTEN of 0 as 2", x.pair(2, 1), 1);
        Due.is("OFTEN of 0 as 1", x.pair(1, 1), 2);
        Due.is("OFTEN of 1 as 0", x.pair(10, 1), 0);
        Due.is("OFTEN of 1 as 1", x.pair(11, 1), 3);
    }

    /** "(plays 0 .. 100 .., else the bound)": the text's own number first; "WELL 0 .. 100, else the bound, in the end": the other. */
    private static void wellsByMatter() {
        SomebodyElseTonight x = Due.club(15, 0, 5, 85, 45, 1);
        Due.law(x, "plays matter * 60 - 20; costs 0; owes 0;");
        // 0, 40, 100, 100 by the text; four apart: an actor has 20 less, a guest 40 less.
        int[] actor = {0, 20, 80, 80};
        int[] guest = {0, 0, 60, 60};
        int[] bachelor = {5, 45, 100, 100};
        int[] nearly = {0, 35, 95, 95};
        for (int m = 0; m < 4; m++) {
            Due.is("an actor on " + m, x.pair(1, 2 + m), actor[m]);
            Due.is("a guest on " + m, x.pair(10, 2 + m), guest[m]);
            Due.is("a bachelor on " + m, x.pair(22, 2 + m), bachelor[m]);
            Due.is("a bachelor, one apart, on " + m, x.pair(20, 2 + m), nearly[m]);
        }
    }

    /** Promise 10: "MANNERS (what 0), whom one PLAYS (1), PURSE (2) becomes v: what it was. -5: no such GUEST; -7: what, v." */
    private static void setting() {
        SomebodyElseTonight x = Due.club(0, 7, 0, 9);
        // The first and the last that is taken: MANNERS 0 .. 255, a GUEST there is, PURSE 0 .. 9999.
        Due.is("set MANNERS", x.set(0, 0, 255), 7);
        Due.is("set MANNERS", x.set(0, 0, 0), 255);
        Due.is("set whom", x.set(0, 1, 1), 0);
        Due.is("set whom", x.set(0, 1, 0), 1);
        Due.is("set PURSE", x.set(1, 2, 9999), 100);
        Due.is("set PURSE", x.set(1, 2, 0), 9999);
        Due.is("told", x.told(0, 2), 0);
        Due.is("told", x.told(1, 4), 0);
        // And those beyond; "-5" ahead of "-7".
        Due.is("MANNERS too many", x.set(0, 0, 256), -7);
        Due.is("MANNERS below 0", x.set(0, 0, -1), -7);
        Due.is("whom there is not", x.set(0, 1, 2), -7);
        Due.is("whom below 0", x.set(0, 1, -1), -7);
        Due.is("PURSE too full", x.set(0, 2, 10000), -7);
        Due.is("PURSE below 0", x.set(0, 2, -1), -7);
        Due.is("what", x.set(0, 3, 0), -7);
        Due.is("what", x.set(0, -1, 0), -7);
        Due.is("no such guest", x.set(2, 0, 0), -5);
        Due.is("no such guest, first", x.set(-1, 9, -1), -5);
        Due.is("told", x.told(0, 3), 0);
        Due.is("told", x.told(0, 4), 100);
    }
}
