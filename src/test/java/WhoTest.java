/** Promises 16 to 19: who can be who. */
public final class WhoTest {
    private static final int BAD = SomebodyElseTonight.BAD;

    public static void main(String[] args) {
        being();
        fitting();
        lookingNext();
        theFewest();
        nobody();
        Due.end("WhoTest");
    }

    /** All pass whatever they play, so one does the MANNERS of whom one plays. */
    private static SomebodyElseTonight passing(int... manners) {
        SomebodyElseTonight x = new SomebodyElseTonight();
        for (int m : manners) x.guest(0, m);
        Due.law(x, "plays 100; costs 0; owes 0;");
        return x;
    }

    /** Promise 16: "GUESTS (bits) whom one CAN BE by some MATTERS (0 .. 15). -5: no such GUEST; -7: matters." */
    private static void being() {
        SomebodyElseTonight x = passing(0b00_01_10_11, 0b00_01_10_00, 0b00_01_00_11, 0b11_01_10_11);
        int[] due = {15, 7, 15, 7, 11, 3, 11, 3, 13, 5, 13, 5, 9, 1, 9, 1};
        for (int matters = 0; matters < 16; matters++) Due.is("may(0, " + matters + ")", x.may(0, matters), due[matters]);
        x.set(0, 1, 3);
        Due.is("may(0, 1) as 3", x.may(0, 1), 8);
        Due.is("may(0, 2) as 3", x.may(0, 2), 15);
        Due.is("may(0, 15) as 3", x.may(0, 15), 8);
        Due.is("may(1, 8)", x.may(1, 8), 2);
        Due.is("may(4, 0)", x.may(4, 0), -5);
        Due.is("may(-1, 0)", x.may(-1, 0), -5);
        Due.is("may(0, 16)", x.may(0, 16), -7);
        Due.is("may(0, -1)", x.may(0, -1), -7);
        Due.is("may(4, 16)", x.may(4, 16), -5);
        // One who falls back does the same as whomever.
        Due.law(x, "plays 0; costs 0; owes 0;");
        Due.is("may(0, 15), falling back", x.may(0, 15), 15);
        Due.is("asking changes nothing", x.told(0, 3), 3);
    }

    /** Promise 17: "how many (what 0), the first (1; as digits; by whom GUEST 0 plays, then 1, ..; 0: none). BAD." */
    private static void fitting() {
        SomebodyElseTonight x = passing(0b00_00_00_00, 0b00_01_00_00, 0b01_01_00_00);
        Due.play(x, 0, 1, 2);
        Due.is("fits(0, 0)", x.fits(0, 0), 6);
        Due.is("fits(0, 1)", x.fits(0, 1), 123);
        Due.is("fits(1, 0)", x.fits(1, 0), 2);
        Due.is("fits(1, 1)", x.fits(1, 1), 123);
        Due.is("fits(3, 0)", x.fits(3, 0), 1);
        Due.play(x, 2, 1, 0);
        Due.is("fits(1, 0)", x.fits(1, 0), 2);
        Due.is("fits(1, 1)", x.fits(1, 1), 312);
        Due.is("fits(2, 1)", x.fits(2, 1), 231);
        Due.is("fits(15, 1)", x.fits(15, 1), 321);
        // "no two the same": two who can only be the one GUEST: "(0: none)".
        Due.play(x, 0, 0, 0);
        Due.is("fits(1, 0)", x.fits(1, 0), 0);
        Due.is("fits(1, 1)", x.fits(1, 1), 0);
        Due.is("fits(12, 0)", x.fits(12, 0), 6);
        Due.play(x, 1, 1, 2);
        Due.is("fits(1, 1)", x.fits(1, 1), 123);
        Due.is("fits(2, 1)", x.fits(2, 1), 0);
        // One of MORE 1 falls back and can be whomever, the other one only 0: the first choice leaves nobody.
        SomebodyElseTonight z = Due.club(1, 0, 0, 85);
        Due.law(z, "plays 100 * (more = 0); costs 0; owes 0;");
        Due.play(z, 0, 0);
        Due.is("fits(1, 0), one choice", z.fits(1, 0), 1);
        Due.is("fits(1, 1), one choice", z.fits(1, 1), 21);
        Due.is("fits(16, 0)", x.fits(16, 0), BAD);
        Due.is("fits(-1, 0)", x.fits(-1, 0), BAD);
        Due.is("fits(0, 2)", x.fits(0, 2), BAD);
        Due.is("fits(0, -1)", x.fits(0, -1), BAD);
        Due.is("all of six", passing(0, 0, 0, 0, 0, 0).fits(15, 0), 720);
        Due.is("the first of six", passing(0, 0, 0, 0, 0, 0).fits(15, 1), 123456);
        SomebodyElseTonight y = passing(0, 0, 0, 3, 3, 3);
        Due.play(y, 3, 0, 4, 1, 5, 2);
        Due.is("two threes", y.fits(15, 0), 36);
        Due.is("two threes, the first", y.fits(15, 1), 415263);
        Due.is("asking changes nothing", y.told(0, 3), 3);
    }

    /**
     * Promise 18: "Of MATTERS that are none of these the one by which, it being one too, fewest DRAWS FIT, of like ones the
     * first (what 0; -1: all are), how many (1; as by these, if all are). BAD."
     */
    private static void lookingNext() {
        // By 0: 2 and 1 alike (2 draws); by 1: all three (6); by 2: none alike (1); by 3: none alike (1).
        SomebodyElseTonight x = passing(0b00_00_00_00, 0b00_00_01_01, 0b01_00_10_10);
        Due.is("next(0, 0)", x.next(0, 0), 2);
        Due.is("next(0, 1)", x.next(0, 1), 1);
        Due.is("next(4, 0)", x.next(4, 0), 0);
        Due.is("next(4, 1)", x.next(4, 1), 1);
        Due.is("next(12, 0)", x.next(12, 0), 0);
        Due.is("next(13, 0)", x.next(13, 0), 1);
        Due.is("next(15, 0)", x.next(15, 0), -1);
        Due.is("next(15, 1)", x.next(15, 1), 1);
        SomebodyElseTonight y = passing(0b00_00_00_00, 0b00_00_00_00, 0b01_00_00_00);
        Due.is("next(0, 0)", y.next(0, 0), 0);
        Due.is("next(0, 1)", y.next(0, 1), 2);
        Due.is("next(1, 0)", y.next(1, 0), 1);
        Due.is("next(1, 1)", y.next(1, 1), 2);
        Due.is("next(14, 0)", y.next(14, 0), 0);
        Due.is("next(15, 1)", y.next(15, 1), 2);
        y.set(0, 1, 2);
        // Who plays 2 can be 2 alone by matter 0, and so can 2: none fits.
        Due.is("next(0, 1)", y.next(0, 1), 0);
        Due.is("next(16, 0)", y.next(16, 0), BAD);
        Due.is("next(-1, 0)", y.next(-1, 0), BAD);
        Due.is("next(0, 2)", y.next(0, 2), BAD);
        Due.is("next(0, -1)", y.next(0, -1), BAD);
    }

    /** Promise 19: "The fewest MATTERS (bits), of like ones the least as bits, by which as many DRAWS FIT as by all four." */
    private static void theFewest() {
        Due.is("all alike", passing(9, 9, 9).fewest(), 0);
        Due.is("by one", passing(0b00_00_00_00, 0b00_00_01_01, 0b01_00_10_10).fewest(), 4);
        Due.is("by two", passing(0b00_00_00_00, 0b00_00_00_01, 0b01_00_00_00).fewest(), 9);
        Due.is("by two, the least as bits", passing(0b00_00_00_00, 0b00_01_01_00, 0b01_01_01_01).fewest(), 3);
        // Matter 3 alone does, and so do 0 and 1 together, which are less as bits, but more MATTERS.
        Due.is("by one, not by two", passing(0, 65, 18).fewest(), 8);
        Due.is("by two, not by three", passing(0b00_00_00_00, 0b01_00_00_01, 0b00_01_01_00, 0b00_00_01_01).fewest(), 12);
        Due.is("by three", passing(0, 1, 4, 16).fewest(), 14);
        Due.is("by all", passing(0, 1, 4, 16, 64).fewest(), 15);
        // None fits by matter 3 alone, and as many as by all is none.
        SomebodyElseTonight x = passing(0b00_00_00_00, 0b01_01_01_01);
        x.set(0, 1, 1);
        Due.is("none fits", x.fewest(), 1);
        Due.is("nobody", new SomebodyElseTonight().fewest(), 0);
    }

    /** Nobody is there: one DRAW of no digits fits. */
    private static void nobody() {
        SomebodyElseTonight x = new SomebodyElseTonight();
        Due.is("fits(15, 0)", x.fits(15, 0), 1);
        Due.is("fits(15, 1)", x.fits(15, 1), 0);
        Due.is("next(0, 0)", x.next(0, 0), 0);
        Due.is("may(0, 0)", x.may(0, 0), -5);
    }
}
