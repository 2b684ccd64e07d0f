/** Promises 37 to 41: the host. */
public final class HostTest {
    private static final int BAD = SomebodyElseTonight.BAD;

    public static void main(String[] args) {
        sheets();
        cells();
        copies();
        guests();
        taken();
        Due.end("HostTest");
    }

    /**
     * Promise 37: "A SHEET becomes a row of n of a sort, all 0, or missing (sort -1: n does not matter): 1. BAD: SHEET, sort, n
     * above 40; -14."
     */
    private static void sheets() {
        SomebodyElseTonight x = Due.club(0, 0);
        for (int s = 0; s < 4; s++) Due.is("missing at first", x.cell(s, 0, 0), -11);
        Due.is("sheet(0, 0, 40)", x.sheet(0, 0, 40), 1);
        Due.is("sheet(1, 1, 0)", x.sheet(1, 1, 0), 1);
        Due.is("sheet(3, 2, 3)", x.sheet(3, 2, 3), 1);
        Due.is("sheet(-1, 0, 1)", x.sheet(-1, 0, 1), BAD);
        Due.is("sheet(4, 0, 1)", x.sheet(4, 0, 1), BAD);
        Due.is("sheet(0, 3, 1)", x.sheet(0, 3, 1), BAD);
        Due.is("sheet(0, -2, 1)", x.sheet(0, -2, 1), BAD);
        Due.is("sheet(0, 0, 41)", x.sheet(0, 0, 41), BAD);
        Due.is("sheet(0, 0, -1)", x.sheet(0, 0, -1), -14);
        Due.is("sheet(4, 0, -1): BAD first", x.sheet(4, 0, -1), BAD);
        Due.is("sheet(0, 3, -1): BAD first", x.sheet(0, 3, -1), BAD);
        Due.is("the refused changed nothing", x.cell(0, 39, 0), 1);
        x.cell(3, 0, 9);
        x.cell(3, 1, 3);
        x.cell(3, 2, 1);
        Due.is("a row is otherwise", x.judge(3, 0), BAD);
        Due.is("sheet(3, 2, 3) again", x.sheet(3, 2, 3), 1);
        Due.is("all 0", x.judge(3, 0), -1);
        for (int i = 0; i < 40; i++) x.cell(0, i, 9);
        x.sheet(0, 0, 39);
        Due.is("all 0", x.judge(0, 0), -1);
        Due.is("missing, of any size", x.sheet(3, -1, 99), 1);
        Due.is("missing, of any size", x.sheet(0, -1, -1), 1);
        Due.is("missing", x.cell(3, 0, 0), -11);
        Due.is("missing", x.judge(0, 0), -11);
    }

    /** Promise 38: "Number i of a SHEET becomes v (of bytes, shorts its lowest 8, 16 bits): 1. BAD: SHEET; -11; -12." */
    private static void cells() {
        SomebodyElseTonight x = Due.club(0, 0b11_00_00_00);
        x.sheet(0, 2, 3);
        Due.is("cell(0, 2, 3)", x.cell(0, 2, 3), 1);
        Due.is("cell(0, 3, 3)", x.cell(0, 3, 3), -12);
        Due.is("cell(0, -1, 3)", x.cell(0, -1, 3), -12);
        Due.is("cell(1, 9, 3)", x.cell(1, 9, 3), -11);
        Due.is("cell(-1, 9, 3)", x.cell(-1, 9, 3), BAD);
        Due.is("cell(4, 9, 3)", x.cell(4, 9, 3), BAD);
        Due.is("it is told", x.judge(0, 0), -1);
        int[] values = {3 + 256, 3 - 256, 3 + 65536, 3 - 65536};
        for (int sort = 0; sort < 3; sort++) {
            x.sheet(0, sort, 3);
            for (int i = 0; i < values.length; i++) {
                x.cell(0, 2, values[i]);
                boolean cut = sort == 0 || sort == 1 && i > 1;
                Due.is("of sort " + sort + " " + values[i], x.judge(0, 0), cut ? -1 : 0);
            }
        }
    }

    /** What a sheet of ints holds from a place on: the number of a guest by it, or -2. */
    private static void holds(SomebodyElseTonight x, int s, int... due) {
        for (int i = 0; i < due.length; i++) {
            SomebodyElseTonight y = x;
            y.image();
            int came = y.guestsBy(s, 2, i, 1);
            Due.is("a guest by place " + i, came, i + 1 < due.length ? 1 : -12);
            if (came == 1) {
                int g = y.count(0) - 1;
                Due.is("at " + i, 10 * y.told(g, 0) + y.told(g, 1), due[i]);
                Due.is("at " + (i + 1), y.told(g, 2), due[i + 1]);
            }
            y.back();
        }
    }

    /**
     * Promise 39: "n numbers of a SHEET, from i on, come to another one's (or its own) place j (as they were): n. BAD: SHEETS;
     * -11; -13: unlike sorts; -12 (n below 0, too)."
     */
    private static void copies() {
        SomebodyElseTonight x = new SomebodyElseTonight();
        Due.tell(x, 0, 11, 12, 13, 14, 15);
        Due.tell(x, 1, 21, 22, 23);
        holds(x, 0, 11, 12, 13, 14, 15);
        Due.is("copy", x.copy(0, 3, 1, 0, 2), 2);
        holds(x, 1, 14, 15, 23);
        Due.is("upwards in itself", x.copy(0, 0, 0, 1, 4), 4);
        holds(x, 0, 11, 11, 12, 13, 14);
        Due.is("downwards in itself", x.copy(0, 1, 0, 0, 4), 4);
        holds(x, 0, 11, 12, 13, 14, 14);
        Due.is("onto itself", x.copy(0, 0, 0, 0, 5), 5);
        holds(x, 0, 11, 12, 13, 14, 14);
        Due.is("to the same place", x.copy(0, 2, 1, 2, 1), 1);
        holds(x, 1, 14, 15, 13);
        Due.is("none", x.copy(0, 0, 1, 0, 0), 0);
        Due.is("none, from the end", x.copy(0, 5, 1, 3, 0), 0);
        Due.is("beyond the one", x.copy(0, 4, 1, 0, 2), -12);
        Due.is("beyond the other", x.copy(0, 0, 1, 2, 2), -12);
        Due.is("n below 0", x.copy(0, 1, 1, 1, -1), -12);
        Due.is("i below 0", x.copy(0, -1, 1, 0, 1), -12);
        Due.is("j below 0", x.copy(0, 0, 1, -1, 1), -12);
        Due.is("far beyond", x.copy(0, 1, 1, 1, Integer.MAX_VALUE), -12);
        Due.is("far beyond", x.copy(0, Integer.MAX_VALUE, 1, 0, 1), -12);
        Due.is("far beyond", x.copy(0, 0, 1, Integer.MAX_VALUE, 1), -12);
        holds(x, 1, 14, 15, 13);
        x.sheet(2, 1, 9);
        Due.is("unlike sorts", x.copy(0, -1, 2, 0, 1), -13);
        Due.is("unlike sorts", x.copy(2, 0, 1, 0, -1), -13);
        Due.is("a missing one", x.copy(3, 0, 2, 0, 1), -11);
        Due.is("to a missing one", x.copy(2, 0, 3, 0, 1), -11);
        Due.is("no such SHEET", x.copy(4, 0, 3, 0, 1), BAD);
        Due.is("no such SHEET", x.copy(3, 0, -1, 0, 1), BAD);
    }

    /**
     * Promise 40: "GUESTS by a SHEET of a sort: from a place on, two by two (as of guest()), n of them (0 .. 6): how many came
     * (others are left out). BAD: SHEET, sort, n; -11; -13; -12: what stood ahead came."
     */
    private static void guests() {
        SomebodyElseTonight x = new SomebodyElseTonight();
        Due.tell(x, 0, 60, 0, 12, 200, 34, 256, 59, 255, 7);
        Due.is("guestsBy(0, 2, 0, 4)", x.guestsBy(0, 2, 0, 4), 2);
        Due.is("KIND", x.told(0, 0), 1);
        Due.is("MORE", x.told(0, 1), 2);
        Due.is("MANNERS", x.told(0, 2), 200);
        Due.is("KIND", x.told(1, 0), 5);
        Due.is("MANNERS", x.told(1, 2), 255);
        Due.is("not as of guest()", x.guestsBy(0, 2, 7, 1), 0);
        Due.is("its second number is outside", x.guestsBy(0, 2, 8, 1), -12);
        x.cell(0, 1, 12);
        x.cell(0, 2, 3);
        Due.is("from 1 on", x.guestsBy(0, 2, 1, 1), 1);
        Due.is("KIND", x.told(2, 0), 1);
        Due.is("MANNERS", x.told(2, 2), 3);
        Due.is("what stood ahead came", x.guestsBy(0, 2, 6, 2), -12);
        Due.is("GUESTS", x.count(0), 4);
        Due.is("from below 0 on", x.guestsBy(0, 2, -2, 2), -12);
        Due.is("from far on", x.guestsBy(0, 2, Integer.MAX_VALUE, 1), -12);
        Due.is("from far below on", x.guestsBy(0, 2, Integer.MIN_VALUE, 6), -12);
        Due.is("none", x.guestsBy(0, 2, 0, 0), 0);
        Due.is("n", x.guestsBy(0, 2, 0, 7), BAD);
        Due.is("n", x.guestsBy(0, 2, 0, -1), BAD);
        Due.is("sort", x.guestsBy(0, 3, 0, 1), BAD);
        Due.is("sort", x.guestsBy(0, -1, 0, 1), BAD);
        Due.is("SHEET", x.guestsBy(4, 2, 0, 1), BAD);
        Due.is("SHEET", x.guestsBy(-1, 2, 0, 1), BAD);
        Due.is("missing", x.guestsBy(1, 2, 0, 1), -11);
        Due.is("of another sort", x.guestsBy(0, 1, 99, 1), -13);
        Due.is("GUESTS", x.count(0), 4);
        Due.tell(x, 1, 1, 1, 2, 2, 3, 3, 4, 4);
        Due.is("no room for all", x.guestsBy(1, 2, 0, 4), 2);
        Due.is("GUESTS", x.count(0), 6);
        Due.is("no room at all", x.guestsBy(1, 2, 0, 4), 0);
        Due.is("no room, and outside", x.guestsBy(1, 2, 4, 3), -12);
        someOfThem();
        lowestBits();
        // A byte is -128 .. 127, as Java's are, a short -32768 .. 32767.
        SomebodyElseTonight y = new SomebodyElseTonight();
        y.sheet(0, 0, 4);
        y.sheet(1, 1, 2);
        y.cell(0, 1, 127);
        y.cell(0, 3, 128);
        y.cell(1, 1, 128);
        Due.is("a byte", y.guestsBy(0, 0, 0, 1), 1);
        Due.is("a byte below 0", y.guestsBy(0, 0, 2, 1), 0);
        Due.is("a short", y.guestsBy(1, 1, 0, 1), 1);
        Due.is("MANNERS", y.told(0, 2), 127);
        Due.is("MANNERS", y.told(1, 2), 128);
    }

    /** Promise 40: "n of them (0 .. 6)", by sheets that hold just so many, and one number less. */
    private static void someOfThem() {
        for (int sort = 0; sort < 3; sort++) {
            for (int n = 0; n <= 6; n++) {
                SomebodyElseTonight x = new SomebodyElseTonight();
                x.sheet(0, sort, 2 * n + 3);
                for (int i = 0; i < 2 * n; i++) x.cell(0, 3 + i, 8 * i + 1);
                Due.is("guestsBy of " + n, x.guestsBy(0, sort, 3, n), Math.min(n, 4));
                Due.is("GUESTS, who are of 1, 17, 33, 49", x.count(0), Math.min(n, 4));
                for (int g = 0; g < 4 && g < n; g++) {
                    Due.is("KIND and MORE", 10 * x.told(g, 0) + x.told(g, 1), 16 * g + 1);
                    Due.is("MANNERS", x.told(g, 2), 16 * g + 9);
                }
            }
        }
        for (int n = 1; n <= 6; n++) {
            SomebodyElseTonight x = new SomebodyElseTonight();
            x.sheet(0, 2, 2 * n - 1);
            Due.is("guestsBy of " + n + ", one number less", x.guestsBy(0, 2, 0, n), -12);
            Due.is("what stood ahead came", x.count(0), n - 1);
        }
        SomebodyElseTonight x = new SomebodyElseTonight();
        x.sheet(0, 1, 12);
        Due.is("six", x.guestsBy(0, 1, 0, 6), 6);
    }

    /** What MANNERS come by a number of a sort; -1: it is none of 0 .. 255. */
    private static void byCell(int sort, int v, int due) {
        SomebodyElseTonight x = new SomebodyElseTonight();
        x.sheet(2, sort, 2);
        x.cell(2, 1, v);
        Due.is("guests by " + v + " of sort " + sort, x.guestsBy(2, sort, 0, 1), due < 0 ? 0 : 1);
        if (due >= 0) Due.is("MANNERS by " + v + " of sort " + sort, x.told(0, 2), due);
    }

    /** Promise 38: "(of bytes, shorts its lowest 8, 16 bits)"; of ints all of them. */
    private static void lowestBits() {
        int[] numbers = {0, 1, 127, 128, 255, 256, 257, 383, 32767, 32768, 65535, 65536, 65537, 65791, 65792, 1 << 24, -1, -128, -129, -255,
            -256, -65536, -65535, Integer.MAX_VALUE, Integer.MIN_VALUE};
        for (int v : numbers) {
            int[] holds = {(byte) v, (short) v, v};
            for (int sort = 0; sort < 3; sort++) byCell(sort, v, holds[sort] >= 0 && holds[sort] <= 255 ? holds[sort] : -1);
        }
    }

    /**
     * Promise 41: "What lies at place i: 0 .. 5 GUESTS, 6 .. 11 MANNERS of GUESTS 0 .. 5, taken for 0 .. 5 a GUEST of that KIND
     * (also of one that is one): the number; 6 MANNERS. BAD: kind; -12: i; -11: nothing lies there; -13."
     */
    private static void taken() {
        SomebodyElseTonight x = Due.club(0, 10, 10, 11, 20, 12, 30, 13, 40, 14);
        int[] kindsOf = {1, 3, 5, 11, 21};
        for (int g = 0; g < 5; g++) {
            for (int kind = 0; kind < 6; kind++) {
                Due.is("a KIND " + g + " taken for " + kind, x.taken(g, kind), (kindsOf[g] >> kind & 1) != 0 ? g : -13);
                Due.is("MANNERS taken for " + kind, x.taken(6 + g, kind), -13);
            }
            Due.is("a GUEST taken for MANNERS", x.taken(g, 6), -13);
            Due.is("MANNERS", x.taken(6 + g, 6), 10 + g);
        }
        Due.is("a HIMSELF for a SHY one", Due.club(50, 0).taken(0, 2), -13);
        Due.is("a HIMSELF for a GUEST", Due.club(50, 0).taken(0, 0), 0);
        Due.is("taken(5, 0)", x.taken(5, 0), -11);
        Due.is("taken(11, 6)", x.taken(11, 6), -11);
        Due.is("taken(12, 0)", x.taken(12, 0), -12);
        Due.is("taken(-1, 0)", x.taken(-1, 0), -12);
        Due.is("taken(12, 7)", x.taken(12, 7), BAD);
        Due.is("taken(0, -1)", x.taken(0, -1), BAD);
    }
}
