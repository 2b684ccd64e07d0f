/** Promises 11 to 15: an evening. */
public final class EveningTest {
    private static final int BAD = SomebodyElseTonight.BAD, FULL = SomebodyElseTonight.FULL;

    public static void main(String[] args) {
        doing();
        everyTwo(100);
        everyTwo(49);
        fallingBack();
        beingKnown();
        evenings();
        paying();
        oftens();
        purses();
        beingKnownThen();
        nights();
        Due.end("EveningTest");
    }

    private static void doesAll(SomebodyElseTonight x, int g, int as, int manners) {
        x.set(g, 1, as);
        for (int m = 0; m < 4; m++) {
            int due = manners >> 6 - 2 * m & 3;
            Due.is("does(" + g + ", " + m + ") as " + as, x.does(g, m), due);
            Due.is("would(" + (10 * g + as) + ", " + m + ")", x.would(10 * g + as, m), due);
        }
    }

    /**
     * Promise 11: "What one DOES on a MATTER as whom one PLAYS. -5: no such GUEST; -7: MATTER."
     * Promise 12: "What one would DO on a MATTER as another one (gAs). -5: no such GUESTS; -7: MATTER."
     */
    private static void doing() {
        SomebodyElseTonight x = Due.club(0, 0b00_01_10_11, 0, 0b00_01_10_00, 0, 0b11_10_01_00);
        doesAll(x, 0, 0, 0b00_01_10_11);
        doesAll(x, 0, 1, 0b00_01_10_00);
        doesAll(x, 0, 2, 0b00_01_10_11);
        doesAll(x, 2, 0, 0b11_10_01_00);
        Due.is("does(3, 0)", x.does(3, 0), -5);
        Due.is("does(-1, 0)", x.does(-1, 0), -5);
        Due.is("does(0, 4)", x.does(0, 4), -7);
        Due.is("does(0, -1)", x.does(0, -1), -7);
        Due.is("does(3, 4)", x.does(3, 4), -5);
        Due.is("would(3, 0)", x.would(3, 0), -5);
        Due.is("would(30, 0)", x.would(30, 0), -5);
        Due.is("would(-1, 0)", x.would(-1, 0), -5);
        Due.is("would(0, 4)", x.would(0, 4), -7);
        Due.is("would(0, -1)", x.would(0, -1), -7);
        Due.is("would(3, 4)", x.would(3, 4), -5);
        x.set(0, 1, 0);
        x.would(1, 0);
        Due.is("asking changes nothing", x.told(0, 3), 0);
        // "so WELL as it PASSES, or WELLER": 50 does, 49 does not: 70 less two times 10, 69 less two times 10.
        Due.law(x, "plays 70 - (matter = 1); costs 0; owes 0;");
        x.set(1, 0, 0b11_10_10_11);
        Due.is("50 WELL", x.would(1, 0), 3);
        Due.is("49 WELL", x.would(1, 1), 1);
    }

    /** "(gAs: 10 times the one, and as whom)": each two of six, who pass by 100, and fall back to their own by 49. */
    private static void everyTwo(int plays) {
        SomebodyElseTonight x = Due.club(0, 27, 0, 78, 0, 228, 0, 177, 0, 114, 0, 201);
        Due.law(x, "plays " + plays + "; costs 0; owes 0;");
        int[] manners = {27, 78, 228, 177, 114, 201};
        for (int g = 0; g < 6; g++) {
            for (int as = 0; as < 6; as++) doesAll(x, g, as, manners[plays == 100 ? as : g]);
        }
    }

    /** "what one FALLS back to": each kind, by MORE 0 and a text that lets none pass, as one of MANNERS 3 2 1 0; MANNERS 1 1 3 3. */
    private static void fallingBack() {
        int[] due = {0b01_01_11_11, 0b01_01_11_11, 0, 0b11_10_01_00, 0b00_11_00_11, 0b01_01_11_11};
        for (int kind = 0; kind < 6; kind++) {
            SomebodyElseTonight x = Due.club(10 * kind, 0b01_01_11_11, 0, 0b11_10_01_00);
            Due.law(x, "plays 0; costs 0; owes 0;");
            doesAll(x, 0, 1, due[kind]);
        }
        SomebodyElseTonight x = Due.club(20, 0b01_10_11_01, 40, 0b01_10_11_01, 50, 0b01_10_11_01, 0, 0b01_10_11_01);
        Due.law(x, "plays 0; costs 0; owes 0;");
        doesAll(x, 0, 0, 0);
        doesAll(x, 1, 1, 0b10_00_10_10);
        doesAll(x, 2, 2, 0b01_10_11_01);
        doesAll(x, 3, 3, 0b01_10_11_01);
        // A SHY one of MORE 5 passes from 60 on, a BACHELOR of MORE 5 is 5 WELLER besides.
        SomebodyElseTonight y = Due.club(25, 85, 45, 85, 0, 84);
        Due.law(y, "plays 65 + (matter < 2) * 5; costs 0; owes 0;");
        doesAll(y, 0, 2, 0b01_01_00_00);
        doesAll(y, 1, 2, 0b01_01_01_00);
        Due.law(y, "plays 64; costs 0; owes 0;");
        doesAll(y, 1, 2, 0b10_10_10_01);
    }

    /** Promise 13: "The MATTER on which one is KNOWN; -1: on none. -5: no such GUEST." */
    private static void beingKnown() {
        SomebodyElseTonight x = Due.club(0, 0b00_01_10_11, 0, 0b00_01_11_10, 20, 0b01_01_01_01);
        Due.is("as oneself", x.known(0), -1);
        Due.law(x, "plays 40; costs 0; owes 0;");
        Due.is("as oneself", x.known(0), -1);
        x.set(0, 1, 1);
        Due.is("on the first one that is unlike", x.known(0), 2);
        x.set(0, 1, 2);
        Due.is("on 0", x.known(0), 0);
        Due.is("a SHY one as oneself", x.known(2), 0);
        x.set(2, 0, 0b00_00_00_11);
        Due.is("on 3", x.known(2), 3);
        x.set(0, 1, 1);
        Due.law(x, "plays 100; costs 0; owes 0;");
        Due.is("passing", x.known(0), -1);
        Due.is("known(3)", x.known(3), -5);
        Due.is("known(-1)", x.known(-1), -5);
    }

    /** Promise 14: "How many are KNOWN (what 0), who (1; bits), costs of these, together (2). BAD." */
    private static void evenings() {
        SomebodyElseTonight x = Due.club(0, 0, 1, 0b00_11_11_11, 2, 0b11_11_11_11, 3, 0);
        Due.law(x, "plays 50; costs 10 + matter * 20 + more; owes 0;");
        Due.is("none", x.evening(0), 0);
        Due.play(x, 1, 2, 0, 0);
        // 0 as 1 is known on 1 (30), 1 as 2 on 0 (11), 2 as 0 on 0 (12), 3 does as 0.
        Due.is("how many", x.evening(0), 3);
        Due.is("who", x.evening(1), 7);
        Due.is("costs", x.evening(2), 53);
        x.set(0, 1, 0);
        Due.is("how many", x.evening(0), 2);
        Due.is("who", x.evening(1), 6);
        Due.is("costs", x.evening(2), 23);
        Due.is("evening(3)", x.evening(3), BAD);
        Due.is("evening(-1)", x.evening(-1), BAD);
        Due.is("nobody is there", new SomebodyElseTonight().evening(0), 0);
    }

    private static void purse(SomebodyElseTonight x, int... due) {
        for (int g = 0; g < due.length; g++) Due.is("PURSE of " + g, x.told(g, 4), due[g]);
    }

    /**
     * Promise 15: "A NIGHT, truly: how many are KNOWN in it."
     * "if one is KNOWN then, one pays costs to whom one PLAYS; then whom one PLAYS pays owes (of oneself as that one) to the
     * GUEST whose number is next to its own, not next to one's (behind the last the first); then OFTEN of these two is 1 more."
     */
    private static void paying() {
        SomebodyElseTonight x = Due.club(0, 0, 0, 255, 0, 255, 0, 0);
        Due.play(x, 2, 1, 2, 3);
        // 0 as 2 is known: 10 to 2; 2 pays 5 to 3; 1 pays 5 to 2; 2 pays 5 to 3; 3 pays 5 to 0.
        Due.is("live()", x.live(), 1);
        purse(x, 95, 95, 105, 105);
        Due.is("OFTEN of 0 as 2", x.pair(2, 1), 1);
        Due.is("OFTEN of 0 as 0", x.pair(0, 1), 0);
        Due.is("OFTEN of 2 as 0", x.pair(20, 1), 0);
        Due.is("OFTEN of 2 as 3", x.pair(23, 1), 0);
        Due.is("OFTEN of 1 as 1", x.pair(11, 1), 1);
        Due.is("THE NIGHT", x.count(1), 1);
        Due.is("whom all play stays", x.told(0, 3), 2);
        // One alone: "(nobody pays oneself)".
        SomebodyElseTonight y = Due.club(20, 255);
        Due.law(y, "plays 0; costs 9; owes 9;");
        Due.is("live()", y.live(), 1);
        purse(y, 100);
        // "matter: the MATTER (of costs the one on which one is KNOWN, of owes 0)", both of the one as the other.
        SomebodyElseTonight z = Due.club(3, 0, 5, 3, 7, 0);
        Due.law(z, "plays 50; costs matter * 10 + apart + more; owes matter * 10 + apart * 20 + more;");
        Due.play(z, 1, 1, 2);
        // 0 as 1: known on 3, 34 to 1; 1 pays 23 to 2. 1 as 1: 5 to 2. 2 as 2: 7 to 0.
        Due.is("live()", z.live(), 1);
        purse(z, 73, 106, 121);
        // OFTEN counts before it grows; "At last THE NIGHT is 1 more."
        SomebodyElseTonight w = Due.club(0, 0, 0, 0);
        Due.law(w, "plays 50; costs 0; owes often * 10 + night;");
        w.live();
        purse(w, 100, 100);
        w.set(1, 1, 0);
        w.live();
        // 0 pays 11 to 1 as itself, and 1 to 1 for 1.
        purse(w, 88, 112);
    }

    /** Promise 15: "OFTEN: how many NIGHTS one has PLAYED each one", of each two. */
    private static void oftens() {
        SomebodyElseTonight x = Due.club(0, 0, 0, 0, 0, 0, 0, 0, 0, 0, 0, 0);
        for (int step = 0; step < 6; step++) {
            for (int g = 0; g < 6; g++) x.set(g, 1, (g + step) % 6);
            for (int night = 0; night <= step; night++) x.live();
        }
        for (int g = 0; g < 6; g++) {
            for (int as = 0; as < 6; as++) Due.is("OFTEN of " + g + " as " + as, x.pair(10 * g + as, 1), 1 + (as - g + 6) % 6);
        }
    }

    /** Promise 15: "Who pays, pays no more than PURSE, and no more than the other's PURSE can take". */
    private static void purses() {
        SomebodyElseTonight x = Due.club(0, 0, 0, 255, 0, 0);
        x.set(0, 1, 1);
        x.set(0, 2, 7);
        x.set(1, 2, 9990);
        x.set(2, 2, 9997);
        // 7 of 10 to 1; 2 of 5 to 2; 1 itself 0 to 2; 2 itself pays 5 to 0.
        Due.is("live()", x.live(), 1);
        purse(x, 5, 9995, 9994);
        x.set(0, 2, 50);
        x.set(1, 2, 9995);
        x.set(2, 2, 0);
        // 4 of 10 to 1; 5 to 2; 1 itself 5 to 2; 2 itself 5 to 0.
        x.live();
        purse(x, 51, 9989, 5);
        x.set(0, 2, 0);
        x.set(1, 2, 3);
        // nothing; 3 of 5 to 2; nothing; 5 to 0.
        x.live();
        purse(x, 5, 0, 3);
    }

    /** Promise 15: "if one is KNOWN then": at one's turn, by the purses as they are then. */
    private static void beingKnownThen() {
        SomebodyElseTonight x = Due.club(0, 0, 0, 85, 0, 170);
        Due.law(x, "plays purse - 10; costs 0; owes 15;");
        Due.play(x, 1, 2, 0);
        // 0 as 1: 90 less 40 passes; 1 pays 15 to 2. 1 has 85: 75 less 40 does not; 2 pays 15 to 0. 2 has 100 then.
        Due.is("ahead", x.evening(0), 0);
        Due.is("live()", x.live(), 1);
        // 0 pays 15 to 1 for 2.
        purse(x, 100, 100, 100);
    }

    /** Promise 15: "FULL: THE NIGHT is 99."; "THE NIGHT 0 .. 99"; "often: OFTEN (99 at most)". */
    private static void nights() {
        SomebodyElseTonight x = Due.club(0, 0);
        for (int n = 0; n < 99; n++) Due.is("live()", x.live(), 0);
        Due.is("THE NIGHT", x.count(1), 99);
        Due.is("live() in the last one", x.live(), FULL);
        Due.is("THE NIGHT", x.count(1), 99);
        Due.is("OFTEN", x.pair(0, 1), 99);
        Due.law(x, "plays often; costs night; owes often;");
        Due.is("often", x.asks(0, 0, 0), 99);
        Due.is("night", x.asks(1, 0, 0), 99);
        Due.is("nobody lives", new SomebodyElseTonight().live(), 0);
    }
}
