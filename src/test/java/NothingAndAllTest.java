/** Each promise where nothing is there (nobody, no rows, no numbers, no image), and where all is full. */
public final class NothingAndAllTest {
    private static final int BAD = SomebodyElseTonight.BAD, STATE = SomebodyElseTonight.STATE, FULL = SomebodyElseTonight.FULL;

    public static void main(String[] args) {
        aNewObject();
        nobodyLives();
        nobodyIsDrawn();
        noRows();
        nobodyIsKept();
        oneAlone();
        six();
        allTextsSay();
        fullSheets();
        Due.end("NothingAndAllTest");
    }

    /** "A new object: No GUESTS."; "SHEETS 0 .. 3 are .. missing (as all are at first)". */
    private static void aNewObject() {
        SomebodyElseTonight x = new SomebodyElseTonight();
        int[] counts = {0, 0, 1, 0, 0};
        for (int what = 0; what < 5; what++) Due.is("count " + what, x.count(what), counts[what]);
        for (int s = 0; s < 4; s++) {
            Due.is("cell", x.cell(s, 0, 0), -11);
            Due.is("copy", x.copy(s, 0, s, 0, 0), -11);
            Due.is("guestsBy", x.guestsBy(s, 0, 0, 0), -11);
            Due.is("judge", x.judge(s, 0), -11);
            Due.is("kinds", x.kinds(s, 0, 0), -11);
            Due.is("manners", x.manners(s, 0, 0), -11);
            Due.is("whose", x.whose(s), -11);
            Due.is("laws", x.laws(s, 0), -11);
            Due.is("film", x.film(s, 0), -5);
        }
        for (int i = 0; i < 12; i++) Due.is("taken " + i, x.taken(i, i < 6 ? 0 : 6), -11);
        Due.is("text() of nothing", x.text(), -100);
        Due.is("force(0)", x.force(0), 0);
        Due.is("force(1)", x.force(1), BAD);
        Due.is("back()", x.back(), STATE);
        for (int g = -1; g < 7; g++) {
            Due.is("told", x.told(g, 3), -5);
            Due.is("set", x.set(g, 2, 0), -5);
            Due.is("does", x.does(g, 0), -5);
            Due.is("known", x.known(g), -5);
            Due.is("may", x.may(g, 0), -5);
            Due.is("chain", x.chain(g, 0), -5);
            Due.is("ring", x.ring(g), -5);
            Due.is("asIf", x.asIf(g, 0, 0), -5);
            Due.is("learns", x.learns(g, 0), -5);
            Due.is("pair", x.pair(10 * g + g, 0), -5);
            Due.is("would", x.would(10 * g + g, 0), -5);
            Due.is("asks", x.asks(0, 10 * g + g, 0), BAD);
        }
    }

    /** Nights go by without a guest, too. */
    private static void nobodyLives() {
        SomebodyElseTonight x = new SomebodyElseTonight();
        for (int what = 0; what < 3; what++) Due.is("evening " + what, x.evening(what), 0);
        for (int n = 0; n < 99; n++) Due.is("live()", x.live(), 0);
        Due.is("THE NIGHT", x.count(1), 99);
        Due.is("live()", x.live(), FULL);
        Due.is("the first comes late", x.guest(0, 0), 0);
        Due.is("live()", x.live(), FULL);
        Due.is("OFTEN", x.pair(0, 1), 0);
    }

    /** Of nobody there is one DRAW: of no digits, 0. */
    private static void nobodyIsDrawn() {
        SomebodyElseTonight x = new SomebodyElseTonight();
        int[] nexts = {0, 1, 0, 2, 0, 1, 0, 3, 0, 1, 0, 2, 0, 1, 0, -1};
        for (int matters = 0; matters < 16; matters++) {
            Due.is("fits, how many", x.fits(matters, 0), 1);
            Due.is("fits, the first", x.fits(matters, 1), 0);
            Due.is("next by " + matters, x.next(matters, 0), nexts[matters]);
            Due.is("next, how many", x.next(matters, 1), 1);
        }
        Due.is("fewest", x.fewest(), 0);
        for (int goal = 0; goal < 3; goal++) {
            Due.is("best", x.best(goal, 0), 0);
            Due.is("best, how much", x.best(goal, 1), 0);
        }
        for (int what = 0; what < 4; what++) Due.is("drawn " + what, x.drawn(99999, what), 0);
        Due.is("lots", x.lots(0), 0);
        Due.is("odds, above", x.odds(99999, 99, 0), 1);
        Due.is("odds, below", x.odds(99999, 99, 1), 1);
        Due.is("chance, above", x.chance(0, 0), 1);
        Due.is("chance, below", x.chance(0, 1), 1);
    }

    /** A SHEET of no numbers tells no rows: none of them is otherwise. */
    private static void noRows() {
        SomebodyElseTonight x = new SomebodyElseTonight();
        for (int sort = 0; sort < 3; sort++) {
            Due.is("sheet", x.sheet(sort, sort, 0), 1);
            Due.is("judge of nobody", x.judge(sort, 0), -5);
            Due.is("kinds of nobody", x.kinds(sort, 0, 9), -5);
            Due.is("manners of nobody", x.manners(sort, 0, 9), -5);
            Due.is("laws of nobody", x.laws(sort, 0), -5);
            Due.is("whose", x.whose(sort), 0);
            Due.is("cell", x.cell(sort, 0, 0), -12);
            Due.is("copy of none", x.copy(sort, 0, sort, 0, 0), 0);
            Due.is("copy of one", x.copy(sort, 0, sort, 0, 1), -12);
            Due.is("copy of none behind it", x.copy(sort, 1, sort, 0, 0), -12);
            Due.is("guestsBy of none", x.guestsBy(sort, sort, 0, 0), 0);
            Due.is("guestsBy of one", x.guestsBy(sort, sort, 0, 1), -12);
        }
        x.guest(34, 27);
        for (int sort = 0; sort < 3; sort++) {
            Due.is("judge", x.judge(sort, 0), -1);
            Due.is("kinds", x.kinds(sort, 0, 0), 63);
            Due.is("MORE", x.kinds(sort, 0, 1), 1023);
            int[] manners = {256, 0, -1, -1, -1, -1};
            for (int what = 0; what < 6; what++) Due.is("manners " + what, x.manners(sort, 0, what), manners[what]);
            Due.is("whose", x.whose(sort), 1);
            Due.is("laws", x.laws(sort, 0), 1);
        }
        // One number is no pair; two are one.
        x.sheet(0, 2, 1);
        Due.is("guestsBy of a single number", x.guestsBy(0, 2, 0, 1), -12);
        x.sheet(0, 2, 2);
        Due.is("guestsBy of two numbers", x.guestsBy(0, 2, 0, 1), 1);
        Due.is("guestsBy of two numbers, twice", x.guestsBy(0, 2, 0, 2), -12);
        Due.is("what stood ahead came", x.count(0), 3);
    }

    /** "image: AN IMAGE is kept: how many GUESTS."; "GUESTS that came since are none". */
    private static void nobodyIsKept() {
        SomebodyElseTonight x = new SomebodyElseTonight();
        Due.is("image()", x.image(), 0);
        for (int g = 0; g < 6; g++) x.guest(11 * g, g);
        Due.play(x, 1, 2, 3, 4, 5, 0);
        x.live();
        Due.is("back()", x.back(), 0);
        Due.is("GUESTS", x.count(0), 0);
        Due.is("THE NIGHT", x.count(1), 0);
        for (int i = 0; i < 12; i++) Due.is("taken " + i, x.taken(i, i < 6 ? 0 : 6), -11);
        for (int g = 0; g < 6; g++) Due.is("guest", x.guest(5, 5), g);
        for (int g = 0; g < 6; g++) {
            Due.is("as one comes", x.told(g, 3), g);
            Due.is("as one comes", x.told(g, 4), 100);
            for (int as = 0; as < 6; as++) Due.is("as one comes", x.pair(10 * g + as, 1), 0);
        }
        Due.is("back() again", x.back(), 0);
        Due.is("GUESTS", x.count(0), 0);
    }

    /** "(one GUEST alone does)": he plays himself in the one DRAW there is. */
    private static void oneAlone() {
        SomebodyElseTonight x = Due.club(29, 255);
        Due.law(x, "plays 67; costs 12; owes 3;");
        Due.is("known as himself", x.known(0), 0);
        for (int goal = 0; goal < 3; goal++) Due.is("best", x.best(goal, 0), 1);
        Due.is("fewest known", x.best(0, 1), 1);
        Due.is("least", x.best(1, 1), 12);
        Due.is("most", x.best(2, 1), -12);
        Due.is("fits", x.fits(15, 1), 1);
        Due.is("fewest", x.fewest(), 0);
        Due.is("chain", x.chain(0, 99), 0);
        Due.is("ring", x.ring(0), 1);
        Due.is("drawn, who", x.drawn(3, 0), 1);
        Due.is("drawn, known", x.drawn(3, 1), 1);
        Due.is("drawn, costs", x.drawn(3, 2), 12);
        Due.is("drawn", x.drawn(3, 3), 1);
        Due.is("lots", x.lots(3), 1);
        Due.is("chance of none", x.chance(0, 0), 0);
        Due.is("chance of none", x.chance(0, 1), 1);
        Due.is("chance of one", x.chance(1, 0), 1);
        Due.is("film", x.film(0, 0), 4);
        Due.is("judge", x.judge(0, 0), -1);
        Due.is("whom there is not", x.set(0, 1, 1), -7);
    }

    /** Six guests: the last of them in each call, and none behind. */
    private static void six() {
        SomebodyElseTonight x = Due.club(0, 0, 1, 64, 2, 128, 3, 192, 4, 1, 59, 255);
        Due.is("guest", x.guest(0, 0), FULL);
        Due.law(x, "plays 100; costs 1; owes 0;");
        Due.play(x, 1, 2, 3, 4, 5, 0);
        Due.is("asks", x.asks(0, 55, 3), 100);
        Due.is("asks", x.asks(0, 50, 3), 100);
        Due.is("asks as none", x.asks(0, 56, 3), BAD);
        Due.is("asks of none", x.asks(0, 65, 3), BAD);
        Due.is("told", x.told(5, 2), 255);
        Due.is("pair", x.pair(50, 0), 4);
        Due.is("pair as none", x.pair(56, 0), -5);
        Due.is("set", x.set(4, 1, 5), 5);
        Due.is("set to none", x.set(4, 1, 6), -7);
        Due.is("does", x.does(4, 3), 3);
        Due.is("would", x.would(45, 3), 3);
        Due.is("known", x.known(5), 0);
        Due.is("may of one who falls back", x.may(5, 1), 63);
        Due.is("chain", x.chain(0, 5), 5);
        Due.is("ring", x.ring(5), 6);
        Due.is("asIf", x.asIf(0, 3, 4), 1);
        Due.is("learns of 5, HIMSELF: as 0 says", x.learns(5, 0), 0);
        Due.is("film", x.film(3, 5), 13);
        Due.is("whose", x.whose(3) >> 5, 1);
        Due.is("taken 5", x.taken(5, 5), 5);
        Due.is("taken 11", x.taken(11, 6), 255);
        Due.is("taken 12", x.taken(12, 6), -12);
        Due.is("image", x.image(), 6);
        Due.is("back", x.back(), 6);
        Due.is("chance of all", x.chance(6, 1), 720);
        Due.is("chance of more", x.chance(7, 1), SomebodyElseTonight.NO);
    }

    /** "laws: TEXTS (bits)" of six; "text: FULL (ahead of the FAULT; then THE TAPE stays)". */
    private static void allTextsSay() {
        SomebodyElseTonight x = Due.club(0, 0, 0, 85);
        for (int t = 1; t < 6; t++) Due.is("text", Due.type(x, "plays 9" + (t - 1) + ";costs " + t + ";owes " + 2 * t + ";"), t);
        Due.feed(x, "plays");
        for (int times = 0; times < 2; times++) {
            Due.is("a seventh", x.text(), FULL);
            Due.is("THE TAPE", x.count(4), 5);
            Due.is("TEXTS", x.count(2), 6);
        }
        Due.is("feed goes on", x.feed(1, ' ', 0, 0, 0, 0), 6);
        // As 1, four apart: by 90 and more one passes.
        Due.tell(x, 0, 1, 0, 1);
        Due.is("laws", x.laws(0, 0), 62);
        Due.tell(x, 0, 1, 0, 0);
        Due.is("laws", x.laws(0, 0), 1);
        Due.tell(x, 0);
        Due.is("laws of no rows", x.laws(0, 0), 63);
        int was = 0;
        for (int t = 5; t > 0; t--) {
            Due.is("force", x.force(t), was);
            Due.is("costs", x.asks(1, 1, 0), t);
            Due.is("owes", x.asks(2, 1, 0), 2 * t);
            was = t;
        }
        Due.is("force of a seventh", x.force(6), BAD);
        Due.is("THE LAW", x.count(3), 1);
    }

    /** "40 at most": the last place of a full sheet in each call that looks at one. */
    private static void fullSheets() {
        for (int sort = 0; sort < 3; sort++) {
            SomebodyElseTonight x = Due.club(0, 0);
            x.image();
            Due.is("sheet of 40", x.sheet(0, sort, 40), 1);
            Due.is("sheet of 41", x.sheet(0, sort, 41), BAD);
            for (int i = 0; i < 40; i++) Due.is("cell " + i, x.cell(0, i, i), 1);
            Due.is("cell 40", x.cell(0, 40, 0), -12);
            Due.is("guestsBy the last", x.guestsBy(0, sort, 38, 1), 1);
            Due.is("KIND", x.told(1, 0), 3);
            Due.is("MORE", x.told(1, 1), 8);
            Due.is("MANNERS", x.told(1, 2), 39);
            x.back();
            Due.is("guestsBy behind it", x.guestsBy(0, sort, 39, 1), -12);
            Due.is("guestsBy, three to the end", x.guestsBy(0, sort, 34, 3), 3);
            x.back();
            Due.is("copy of all", x.copy(0, 0, 0, 0, 40), 40);
            Due.is("copy of more", x.copy(0, 0, 0, 0, 41), -12);
            Due.is("copy by one", x.copy(0, 0, 0, 1, 39), 39);
            Due.is("copy by one, one more", x.copy(0, 0, 0, 1, 40), -12);
            Due.is("copy of the last", x.copy(0, 39, 0, 0, 1), 1);
            Due.is("the last is 38 now", x.guestsBy(0, sort, 0, 1), 1);
            Due.is("it came to the first place", 10 * x.told(1, 0) + x.told(1, 1), 38);
            Due.is("behind it the first", x.told(1, 2), 0);
            // 39 numbers tell 13 rows, 40 none.
            Due.is("judge of 40", x.judge(0, 0), BAD);
            x.sheet(1, sort, 39);
            Due.is("judge of 13 rows", x.judge(1, 0), -1);
            x.cell(1, 38, 1);
            Due.is("the last of 13 rows", x.judge(1, 0), 12);
        }
    }
}
