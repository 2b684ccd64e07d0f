/** Promises 20 to 24: draws that are best. */
public final class BestTest {
    private static final int BAD = SomebodyElseTonight.BAD;

    public static void main(String[] args) {
        draws();
        few();
        chains();
        learning();
        Due.end("BestTest");
    }

    /**
     * Promise 20: "Of all DRAWS in which nobody plays oneself (one GUEST alone does) that by which, were it so, fewest would be
     * KNOWN (goal 0), evening(2) would be least (1), most (2), of like ones the first: it as digits (what 0), how many, how
     * much (1; of goal 2 below 0). BAD."
     */
    private static void draws() {
        // MORE 0 .. 3, all unlike on matter 0; the last one alone falls back.
        SomebodyElseTonight x = Due.club(0, 0, 1, 64, 2, 128, 3, 192);
        Due.law(x, "plays 100 * (not more = 3) ; costs 1 + more * more; owes 0;");
        // 3 alone is known, as whomever: 10.
        Due.is("best(0, 0)", x.best(0, 0), 2143);
        Due.is("best(0, 1)", x.best(0, 1), 1);
        Due.is("best(1, 1)", x.best(1, 1), 10);
        Due.is("best(2, 1)", x.best(2, 1), -10);
        x.set(0, 0, 192);
        // As 0, who is as 3 now, 3 is not known.
        Due.is("best(0, 0)", x.best(0, 0), 2341);
        Due.is("best(0, 1)", x.best(0, 1), 0);
        Due.is("best(1, 0)", x.best(1, 0), 2341);
        Due.is("best(1, 1)", x.best(1, 1), 0);
        Due.is("best(2, 0)", x.best(2, 0), 2143);
        Due.is("best(2, 1)", x.best(2, 1), -10);
        // Nobody passes: it costs by the matter on which one is known, and fewest is not cheapest.
        SomebodyElseTonight y = Due.club(0, 0b00_00_00_00, 0, 0b00_00_00_01, 0, 0b01_00_00_00);
        Due.law(y, "plays 10; costs 50 - matter * 15; owes 0;");
        // 0 as 1, 1 as 0: on 3 (5); all as 2, 2 as all: on 0 (50). 231: 5 + 50 + 50; 312: 50 + 5 + 50.
        Due.is("best(0, 0)", y.best(0, 0), 231);
        Due.is("best(0, 1)", y.best(0, 1), 3);
        Due.is("best(1, 0)", y.best(1, 0), 231);
        Due.is("best(1, 1)", y.best(1, 1), 105);
        Due.is("best(2, 1)", y.best(2, 1), -105);
        // Unlike ones are known, at 10 for each MORE; 0 and 3 are alike.
        SomebodyElseTonight z = Due.club(0, 0, 1, 85, 2, 170, 9, 0);
        Due.law(z, "plays 40; costs more * 10; owes 0;");
        // 4321: 0 as 3 and 3 as 0 aren't known, two are, for 30. 2341: 3 isn't, for 30, too.
        Due.is("best(0, 0)", z.best(0, 0), 4321);
        Due.is("best(0, 1)", z.best(0, 1), 2);
        Due.is("best(1, 0)", z.best(1, 0), 2341);
        Due.is("best(1, 1)", z.best(1, 1), 30);
        Due.is("best(2, 0)", z.best(2, 0), 2143);
        Due.is("best(2, 1)", z.best(2, 1), -120);
        Due.is("best(3, 0)", z.best(3, 0), BAD);
        Due.is("best(-1, 0)", z.best(-1, 0), BAD);
        Due.is("best(0, 2)", z.best(0, 2), BAD);
        Due.is("best(0, -1)", z.best(0, -1), BAD);
        Due.is("asking changes nothing", z.told(0, 3), 0);
    }

    /** Promise 20: nobody, "one GUEST alone does", two, six; "of like ones the first". */
    private static void few() {
        SomebodyElseTonight x = new SomebodyElseTonight();
        Due.is("nobody", x.best(0, 0), 0);
        Due.is("nobody", x.best(2, 1), 0);
        x.guest(20, 255);
        Due.law(x, "plays 0; costs 7; owes 0;");
        Due.is("one alone", x.best(0, 0), 1);
        Due.is("one alone is known", x.best(0, 1), 1);
        Due.is("one alone costs", x.best(1, 1), 7);
        Due.is("one alone costs most", x.best(2, 1), -7);
        x.guest(0, 0);
        Due.is("two", x.best(1, 0), 21);
        // 0, SHY, as 1 does 0; 1 as 0 is known.
        Due.is("two", x.best(1, 1), 7);
        Due.is("six", Due.club(0, 0, 0, 0, 0, 0, 0, 0, 0, 0, 0, 0).best(2, 0), 214365);
        Due.is("five", Due.club(0, 0, 0, 0, 0, 0, 0, 0, 0, 0).best(0, 0), 21453);
    }

    /**
     * Promise 21: "so deep (0 .. 99; 0: oneself, 1: whom one PLAYS, ..). -5: no such GUEST; -7: depth."
     * Promise 22: "The least depth above 0 (1 .. 6) in which that is oneself; -1: none. -5: no such GUEST."
     * Promise 23: "What one would DO on a MATTER as chain() of a depth (0 .. 20). -5: no such GUEST; -7: MATTER, depth."
     */
    private static void chains() {
        SomebodyElseTonight x = Due.club(0, 0, 0, 85, 0, 170, 0, 255, 0, 1);
        Due.play(x, 1, 2, 0, 2, 4);
        int[] due = {3, 2, 0, 1, 2, 0, 1};
        for (int d = 0; d < due.length; d++) Due.is("chain(3, " + d + ")", x.chain(3, d), due[d]);
        Due.is("chain(0, 99)", x.chain(0, 99), 0);
        Due.is("chain(0, 98)", x.chain(0, 98), 2);
        Due.is("chain(0, 100)", x.chain(0, 100), -7);
        Due.is("chain(0, -1)", x.chain(0, -1), -7);
        Due.is("chain(5, 0)", x.chain(5, 0), -5);
        Due.is("chain(-1, 100)", x.chain(-1, 100), -5);
        Due.is("ring(0)", x.ring(0), 3);
        Due.is("ring(2)", x.ring(2), 3);
        Due.is("ring(3)", x.ring(3), -1);
        Due.is("ring(4)", x.ring(4), 1);
        Due.is("ring(5)", x.ring(5), -5);
        Due.is("ring(-1)", x.ring(-1), -5);
        rings();
        depths();
        // Whoever passes does as the one at the chain's end.
        Due.law(x, "plays 100; costs 0; owes 0;");
        Due.is("asIf(3, 1, 0)", x.asIf(3, 1, 0), 3);
        Due.is("asIf(3, 1, 1)", x.asIf(3, 1, 1), 2);
        Due.is("asIf(3, 1, 2)", x.asIf(3, 1, 2), 0);
        Due.is("asIf(3, 1, 3)", x.asIf(3, 1, 3), 1);
        Due.is("asIf(0, 2, 20)", x.asIf(0, 2, 20), 2);
        Due.is("asIf(4, 3, 7)", x.asIf(4, 3, 7), 1);
        Due.is("asIf(0, 0, 21)", x.asIf(0, 0, 21), -7);
        Due.is("asIf(0, 0, -1)", x.asIf(0, 0, -1), -7);
        Due.is("asIf(0, 4, 0)", x.asIf(0, 4, 0), -7);
        Due.is("asIf(0, -1, 0)", x.asIf(0, -1, 0), -7);
        Due.is("asIf(5, 4, 21)", x.asIf(5, 4, 21), -5);
        // It is one's own falling back, not that of those between.
        SomebodyElseTonight y = Due.club(20, 255, 0, 170, 0, 85);
        Due.law(y, "plays 0; costs 0; owes 0;");
        Due.play(y, 1, 2, 0);
        Due.is("asIf(0, 0, 2)", y.asIf(0, 0, 2), 0);
        Due.is("asIf(1, 0, 2)", y.asIf(1, 0, 2), 2);
    }

    /** Promise 22: rings of 1 to 6; the others play one of the ring, so they are in none. */
    private static void rings() {
        for (int n = 1; n <= 6; n++) {
            SomebodyElseTonight x = Due.club(0, 0, 0, 0, 0, 0, 0, 0, 0, 0, 0, 0);
            for (int g = 0; g < 6; g++) x.set(g, 1, g < n ? (g + 1) % n : g % n);
            for (int g = 0; g < 6; g++) Due.is("ring(" + g + ") of " + n, x.ring(g), g < n ? n : -1);
        }
    }

    /** Promises 21 and 23: each depth, step by step. */
    private static void depths() {
        SomebodyElseTonight x = Due.club(0, 0, 10, 85, 20, 170, 30, 255, 40, 27, 50, 228);
        Due.play(x, 1, 2, 3, 4, 5, 2);
        int whom = 0;
        for (int depth = 0; depth < 100; depth++) {
            Due.is("chain(0, " + depth + ")", x.chain(0, depth), whom);
            if (depth <= 20) Due.is("asIf(0, 2, " + depth + ")", x.asIf(0, 2, depth), x.would(whom, 2));
            whom = x.told(whom, 3);
        }
    }

    private static void learns(int kindMore, String text, int least, int many) {
        SomebodyElseTonight x = Due.club(kindMore, 200, 0, 0b01_10_00_11);
        Due.law(x, text);
        x.set(0, 1, 1);
        Due.is("learns of " + kindMore + " by " + text, x.learns(0, 0), least);
        Due.is("learns of " + kindMore + " by " + text, x.learns(0, 1), many);
        Due.is("MANNERS stay", x.told(0, 2), 200);
    }

    /**
     * Promise 24: "MANNERS by which, were they one's own, one would DO otherwise than those of whom one PLAYS say on fewest
     * MATTERS, of like ones the least (what 0), on how many (1). -5: no such GUEST; -7: what."
     */
    private static void learning() {
        learns(0, "plays 100; costs 0; owes 0;", 0, 0);
        learns(0, "plays 60; costs 0; owes 0;", 0b00_10_00_11, 0);
        learns(0, "plays 70; costs 0; owes 0;", 0b00_00_00_11, 0);
        learns(0, "plays 0; costs 0; owes 0;", 0b01_10_00_11, 0);
        learns(0, "plays 80; costs 0; owes 0;", 0b00_00_00_00, 0);
        learns(0, "plays 79; costs 0; owes 0;", 0b00_00_00_11, 0);
        // SHY: does 0 whatever the own MANNERS are, so all but matter 2 are otherwise.
        learns(20, "plays 0; costs 0; owes 0;", 0, 3);
        learns(20, "plays 50; costs 0; owes 0;", 0b01_10_00_11, 0);
        SomebodyElseTonight all = Due.club(20, 200, 0, 0b01_10_01_11);
        Due.law(all, "plays 0; costs 0; owes 0;");
        all.set(0, 1, 1);
        Due.is("otherwise on all, always", all.learns(0, 0), 0);
        Due.is("otherwise on all, always", all.learns(0, 1), 4);
        // BACHELOR: what both make together is the other's, if one's own are 0.
        learns(40, "plays 0; costs 0; owes 0;", 0, 0);
        // Passes on matters 0 and 1 alone.
        learns(20, "plays 100 * (matter < 2); costs 0; owes 0;", 0, 1);
        SomebodyElseTonight x = Due.club(20, 200, 40, 200, 0, 200);
        Due.law(x, "plays 0; costs 0; owes 0;");
        // As oneself one's MANNERS are those of whom one plays, too.
        Due.is("a SHY one as himself", x.learns(0, 0), 0);
        Due.is("a SHY one as himself", x.learns(0, 1), 0);
        Due.is("a BACHELOR as himself", x.learns(1, 0), 0);
        Due.is("a GUEST as himself", x.learns(2, 0), 0);
        Due.is("learns(3, 0)", x.learns(3, 0), -5);
        Due.is("learns(-1, 2)", x.learns(-1, 2), -5);
        Due.is("learns(0, 2)", x.learns(0, 2), -7);
        Due.is("learns(0, -1)", x.learns(0, -1), -7);
        Due.is("MANNERS stay", x.told(2, 2), 200);
    }
}
