/** Promises 25 to 30: told evenings. */
public final class ToldTest {
    private static final int BAD = SomebodyElseTonight.BAD;

    public static void main(String[] args) {
        judging();
        refusals();
        kindsAndMores();
        mannersOfIt();
        whoseTheyAre();
        texts();
        films();
        Due.end("ToldTest");
    }

    /** Promise 25: "A SHEET tells rows of three: as whom, a MATTER, what a GUEST DID: the first row (from 0) that is otherwise; -1: none." */
    private static void judging() {
        SomebodyElseTonight x = Due.club(0, 0b00_01_10_11, 0, 0b11_11_11_11, 0, 0b00_01_10_10);
        // As 1 guest 0 falls back, as 2 it passes.
        Due.tell(x, 0, 1, 0, 0, 2, 3, 2, 0, 1, 1);
        Due.is("judge(0, 0)", x.judge(0, 0), -1);
        Due.is("judge(0, 1)", x.judge(0, 1), 0);
        Due.is("judge(0, 2)", x.judge(0, 2), -1);
        x.cell(0, 8, 2);
        Due.is("the last row", x.judge(0, 0), 2);
        x.cell(0, 5, 3);
        Due.is("the row ahead", x.judge(0, 0), 1);
        x.cell(0, 2, 4);
        Due.is("what nobody does", x.judge(0, 0), 0);
        x.cell(0, 2, -1);
        Due.is("what nobody does", x.judge(0, 0), 0);
        Due.tell(x, 1);
        Due.is("no rows", x.judge(1, 0), -1);
    }

    private interface Call {
        int of(int s, int g, int what);
    }

    /** Promises 25 to 29: "BAD: SHEET; -11; BAD: its size isn't by threes, no such GUEST, MATTER told; -5: no such GUEST", and -7. */
    private static void refused(String name, Call c, boolean ofOne, boolean ofWhat) {
        Due.is(name + ", no such SHEET", c.of(4, 9, 9), BAD);
        Due.is(name + ", no such SHEET", c.of(-1, 9, 9), BAD);
        Due.is(name + ", a missing one", c.of(3, 9, 9), -11);
        Due.is(name + ", not by threes", c.of(0, 9, 9), BAD);
        Due.is(name + ", a guest there is not", c.of(1, 9, 9), BAD);
        Due.is(name + ", a matter there is not", c.of(2, 9, 9), BAD);
        if (ofOne) Due.is(name + ", no such guest", c.of(3, 2, 9), -5);
        if (ofOne) Due.is(name + ", no such guest", c.of(3, -1, 9), -5);
        if (ofWhat) Due.is(name + ", what", c.of(3, 1, 9), -7);
        if (ofWhat) Due.is(name + ", what", c.of(3, 1, -1), -7);
    }

    private static void refusals() {
        String[] names = {"judge", "kinds", "manners", "whose", "laws"};
        for (int i = 0; i < names.length; i++) {
            SomebodyElseTonight x = Due.club(0, 0, 0, 0);
            Due.tell(x, 0, 0, 0, 0, 0);
            Due.tell(x, 1, 0, 0, 0, 2, 0, 0);
            Due.tell(x, 2, 0, 0, 1, 0, 4, 0);
            int which = i;
            Call c = (s, g, what) -> {
                if (s == 3 && g != 9) Due.tell(x, 3, 0, 0, 0);
                return switch (which) {
                    case 0 -> x.judge(s, g);
                    case 1 -> x.kinds(s, g, what);
                    case 2 -> x.manners(s, g, what);
                    case 3 -> x.whose(s);
                    default -> x.laws(s, g);
                };
            };
            refused(names[i], c, i != 3, i == 1 || i == 2);
            x.cell(1, 3, -1);
            Due.is(names[i] + ", a guest below 0", c.of(1, 0, 0), BAD);
            x.cell(2, 4, -1);
            Due.is(names[i] + ", a matter below 0", c.of(2, 0, 0), BAD);
            Due.is("kinds(3, 0, 2)", x.kinds(3, 0, 2), i == 3 ? -11 : -7);
            Due.is("manners(3, 0, 6)", x.manners(3, 0, 6), i == 3 ? -11 : -7);
        }
    }

    /** Promise 26: "KINDS (sort 0; bits 0 .. 5), MORE (1; bits 0 .. 9) by which, were they one's, that would be -1. .. -7: sort." */
    private static void kindsAndMores() {
        // Guest 0 of MORE 4 and MANNERS 1 1 1 1, guest 1 of 2 2 2 1: three apart, the text says 72.
        SomebodyElseTonight x = Due.club(4, 0b01_01_01_01, 0, 0b10_10_10_01);
        // GUEST 42, SHY 42 of 58, BACHELOR 46 of 58, HIMSELF 14: fall back; ACTOR 57, MIMIC 96: pass.
        Due.tell(x, 0, 1, 0, 2);
        Due.is("who pass", x.kinds(0, 0, 0), 1 << 1 | 1 << 3);
        Due.tell(x, 0, 1, 0, 1);
        Due.is("who do as they come", x.kinds(0, 0, 0), 1 | 1 << 5);
        Due.tell(x, 0, 1, 0, 0);
        Due.is("who do 0", x.kinds(0, 0, 0), 1 << 2);
        Due.tell(x, 0, 1, 0, 3);
        Due.is("who do both together", x.kinds(0, 0, 0), 1 << 4);
        Due.tell(x, 0, 1, 0, 3, 1, 0, 1);
        Due.is("nobody does both", x.kinds(0, 0, 0), 0);
        Due.tell(x, 0);
        Due.is("no rows", x.kinds(0, 0, 0), 63);
        Due.is("no rows", x.kinds(0, 0, 1), 1023);
        // 60 + 3 MORE less 30 is 50 from MORE 7 on.
        Due.tell(x, 0, 1, 0, 2);
        Due.is("MORE that passes", x.kinds(0, 0, 1), 7 << 7);
        Due.tell(x, 0, 1, 0, 1);
        Due.is("MORE that falls back", x.kinds(0, 0, 1), 127);
        Due.is("KIND stays", x.told(0, 0), 0);
        Due.is("MORE stays", x.told(0, 1), 4);
        // As oneself, of a SHY one: 60 + 3 MORE is 50 + 2 MORE and more, always.
        x.set(0, 0, 255);
        Due.tell(x, 0, 0, 0, 3);
        Due.is("as oneself", x.kinds(0, 0, 0), 63);
        SomebodyElseTonight y = Due.club(20, 255);
        Due.law(y, "plays 60; costs 0; owes 0;");
        Due.tell(y, 0, 0, 0, 3);
        Due.is("MORE of a SHY one", y.kinds(0, 0, 1), 63);
    }

    /**
     * Promise 27: "MANNERS by which, were they one's own (of oneself as whom, too), that would be -1: how many (what 0), the
     * least (1; -1: there are none), the ANSWER on MATTER what less 2 that is the same in all of them (2 .. 5; -1: it isn't,
     * there are none)."
     */
    private static void mannersOfIt() {
        SomebodyElseTonight x = Due.club(0, 0b00_01_10_11, 0, 0b11_11_11_11);
        Due.law(x, "plays 0; costs 0; owes 0;");
        Due.tell(x, 0, 1, 0, 2, 0, 2, 1, 1, 0, 2);
        Due.is("how many", x.manners(0, 0, 0), 16);
        Due.is("the least", x.manners(0, 0, 1), 0b10_00_01_00);
        Due.is("on 0", x.manners(0, 0, 2), 2);
        Due.is("on 1", x.manners(0, 0, 3), -1);
        Due.is("on 2", x.manners(0, 0, 4), 1);
        Due.is("on 3", x.manners(0, 0, 5), -1);
        Due.tell(x, 0, 1, 0, 2, 1, 0, 1);
        for (int what = 1; what < 6; what++) Due.is("none", x.manners(0, 0, what), -1);
        Due.is("none", x.manners(0, 0, 0), 0);
        Due.tell(x, 0);
        Due.is("no rows", x.manners(0, 1, 0), 256);
        Due.is("no rows", x.manners(0, 1, 1), 0);
        Due.is("no rows", x.manners(0, 1, 2), -1);
        Due.tell(x, 0, 0, 0, 3, 0, 1, 0, 0, 2, 2, 0, 3, 1);
        Due.is("all told", x.manners(0, 0, 0), 1);
        Due.is("all told", x.manners(0, 0, 1), 0b11_00_10_01);
        for (int m = 0; m < 4; m++) Due.is("all told", x.manners(0, 0, 2 + m), 0b11_00_10_01 >> 6 - 2 * m & 3);
        Due.is("MANNERS stay", x.told(0, 2), 0b00_01_10_11);
        Due.is("MANNERS stay", x.told(1, 2), 255);
        // By 70 one passes as 1 if two or less apart: does 3 on 0; else one's own on 0.
        Due.law(x, "plays 70; costs 0; owes 0;");
        Due.tell(x, 0, 1, 0, 3);
        // Own 3 on 0: 64; else one apart already: of the others 3 on two or three: 3 times (1 + 9).
        Due.is("how many", x.manners(0, 0, 0), 94);
        Due.is("the least", x.manners(0, 0, 1), 0b00_00_11_11);
        // "(of oneself as whom, too)": one is never apart from oneself.
        SomebodyElseTonight y = Due.club(40, 27, 0, 0);
        Due.law(y, "plays 49; costs 0; owes 0;");
        // Falls back as oneself: twice one's own, modulo 4.
        Due.tell(y, 0, 0, 0, 2);
        Due.is("twice", y.manners(0, 0, 0), 128);
        Due.is("twice", y.manners(0, 0, 1), 64);
        Due.tell(y, 0, 0, 0, 1);
        Due.is("never", y.manners(0, 0, 0), 0);
        Due.is("never", y.manners(0, 0, 1), -1);
    }

    /** Promise 28: "GUESTS (bits) of whom that would be -1." */
    private static void whoseTheyAre() {
        SomebodyElseTonight x = Due.club(0, 0, 0, 64, 0, 1, 20, 192);
        Due.law(x, "plays 0; costs 0; owes 0;");
        Due.tell(x, 0, 1, 0, 0);
        Due.is("whose(0)", x.whose(0), 1 | 4 | 8);
        Due.tell(x, 0, 1, 0, 0, 0, 3, 1);
        Due.is("whose(0)", x.whose(0), 4);
        Due.tell(x, 0, 1, 0, 3);
        Due.is("whose(0)", x.whose(0), 0);
        Due.tell(x, 0);
        Due.is("whose(0)", x.whose(0), 15);
    }

    /** Promise 29: "TEXTS (bits), were they THE LAW, by which that would be -1." */
    private static void texts() {
        SomebodyElseTonight x = Due.club(0, 0, 0, 255);
        Due.type(x, "plays 90; costs 0; owes 0;");
        Due.type(x, "plays 89; costs 0; owes 0;");
        Due.type(x, "plays 90 * (matter = 2); costs 0; owes 0;");
        Due.tell(x, 0, 1, 2, 3);
        Due.is("laws(0, 0)", x.laws(0, 0), 2 | 8);
        Due.tell(x, 0, 1, 2, 0);
        Due.is("laws(0, 0)", x.laws(0, 0), 1 | 4);
        Due.tell(x, 0, 1, 2, 3, 1, 1, 0);
        Due.is("laws(0, 0)", x.laws(0, 0), 8);
        Due.tell(x, 0, 1, 2, 2);
        Due.is("laws(0, 0)", x.laws(0, 0), 0);
        Due.tell(x, 0);
        Due.is("laws(0, 1)", x.laws(0, 1), 15);
        Due.is("THE LAW stays", x.count(3), 0);
        x.force(2);
        x.laws(0, 1);
        Due.is("THE LAW stays", x.count(3), 2);
    }

    /**
     * Promise 30: "A SHEET truly becomes rows of what a GUEST would DO as GUEST 0 on MATTERS 0 .. 3, as 1, .. (the first 13;
     * bytes): how many. BAD: SHEET; -5: no such GUEST."
     */
    private static void films() {
        SomebodyElseTonight x = Due.club(0, 0b01_01_10_11, 0, 0b11_00_01_10, 20, 0, 0, 0b01_01_10_10);
        Due.is("film(0, 0)", x.film(0, 0), 13);
        Due.is("its size", x.cell(0, 38, 3), 1);
        Due.is("its size", x.cell(0, 39, 0), -12);
        Due.is("judge", x.judge(0, 0), 12);
        x.cell(0, 38, 1);
        Due.is("judge", x.judge(0, 0), -1);
        // Rows as told: changing one number changes the judgement of that row.
        for (int r = 0; r < 13; r++) {
            x.film(0, 0);
            x.cell(0, 3 * r + 2, 3 - x.would(r / 4, r % 4));
            Due.is("row " + r, x.judge(0, 0), r);
        }
        // Of sort 0: what it is copied to must be bytes.
        x.sheet(1, 0, 40);
        x.sheet(2, 2, 40);
        Due.is("copy to bytes", x.copy(0, 0, 1, 0, 39), 39);
        Due.is("copy to ints", x.copy(0, 0, 2, 0, 39), -13);
        Due.is("whom and matter", x.guestsBy(1, 0, 3, 1), 1);
        Due.is("0 and 1 are in the second row", x.told(4, 0), 0);
        Due.is("0 and 1 are in the second row", x.told(4, 2), 1);
        // "the first 13": of one, two, three guests all are fewer.
        SomebodyElseTonight more = new SomebodyElseTonight();
        for (int n = 1; n <= 6; n++) {
            more.guest(10 * n - 10, 40 * n);
            Due.is("film of " + n, more.film(n & 3, n - 1), Math.min(13, 4 * n));
            Due.is("its size", more.cell(n & 3, 3 * Math.min(13, 4 * n), 0), -12);
            Due.is("it is as told", more.judge(n & 3, n - 1), -1);
        }
        SomebodyElseTonight y = Due.club(0, 1, 0, 0, 0, 0);
        y.sheet(1, 2, 5);
        Due.is("film(1, 2)", y.film(1, 2), 12);
        Due.is("its size", y.cell(1, 36, 0), -12);
        Due.is("film(-1, 9)", y.film(-1, 9), BAD);
        Due.is("film(4, 0)", y.film(4, 0), BAD);
        Due.is("film(1, 3)", y.film(1, 3), -5);
        Due.is("film(1, -1)", y.film(1, -1), -5);
        Due.is("the refused changed nothing", y.judge(1, 2), -1);
    }
}
