import java.util.ArrayDeque;
import java.util.Deque;

/** The sentences of 'Terms' that name a bound: the last that is taken and the first that is not, at both ends. */
public final class BoundsTest {
    private static final int FULL = SomebodyElseTonight.FULL;
    private static final int[] APARTS = {0, 1, 5, 21, 85};

    public static void main(String[] args) {
        guests();
        answers();
        aparts();
        wells();
        wellInTheEnd();
        passing();
        fallingBack();
        firstText();
        names();
        bytesAheadOfAll();
        bytesAheadOfOne();
        bytesBehindOne();
        bytesBehindKey();
        digits();
        tape();
        fiveOpen();
        ints();
        truth();
        partsBounded();
        known();
        paying();
        behindTheLast();
        atLastTheNight();
        canBe();
        lots();
        Due.end("BoundsTest");
    }

    private static SomebodyElseTonight by(String plays, int... guests) {
        SomebodyElseTonight x = Due.club(guests);
        Due.law(x, "plays " + plays + "; costs 0; owes 0;");
        return x;
    }

    /** "GUESTS are numbered from 0 on, 6 at most: of a KIND, with MORE (0 .. 9)"; "PLAYS .. (oneself, as one comes); PURSE (..; 100 as one comes)". */
    private static void guests() {
        SomebodyElseTonight x = new SomebodyElseTonight();
        for (int g = 0; g < 6; g++) Due.is("guest " + g, x.guest(10 * g + (g % 2) * 9, 255 * (g % 2)), g);
        Due.is("a seventh", x.guest(0, 0), FULL);
        for (int g = 0; g < 6; g++) {
            Due.is("KIND of " + g, x.told(g, 0), g);
            Due.is("MORE of " + g, x.told(g, 1), g % 2 * 9);
            Due.is("MANNERS of " + g, x.told(g, 2), g % 2 * 255);
            Due.is("whom " + g + " plays", x.told(g, 3), g);
            Due.is("PURSE of " + g, x.told(g, 4), 100);
            for (int as = 0; as < 6; as++) Due.is("OFTEN (0 at first)", x.pair(10 * g + as, 1), 0);
        }
        Due.is("THE NIGHT (0 at first)", x.count(1), 0);
    }

    /** "MANNERS: an ANSWER (0 .. 3) on each of MATTERS 0 .. 3 (as a number 0 .. 255: 64 times that on 0, 16 times that on 1, ..)". */
    private static void answers() {
        for (int manners = 0; manners < 256; manners++) {
            SomebodyElseTonight x = by("100", 0, manners);
            int sum = 64 * x.does(0, 0) + 16 * x.does(0, 1) + 4 * x.does(0, 2) + x.does(0, 3);
            Due.is("ANSWERS of MANNERS " + manners, sum, manners);
        }
    }

    /** "APART: on how many MATTERS the ANSWERS of two are unlike": each two ANSWERS on each MATTER. */
    private static void aparts() {
        SomebodyElseTonight x = Due.club(0, 0, 0, 0);
        for (int matter = 0; matter < 4; matter++) {
            for (int a = 0; a < 4; a++) {
                for (int b = 0; b < 4; b++) {
                    x.set(0, 0, a << 2 * matter);
                    x.set(1, 0, b << 2 * matter);
                    Due.is("APART, " + a + " and " + b, x.pair(1, 0), a == b ? 0 : 1);
                }
            }
        }
        for (int n = 0; n < 5; n++) {
            x.set(0, 0, 255);
            x.set(1, 0, 255 - APARTS[n]);
            Due.is("APART on " + n, x.pair(1, 0), n);
            Due.is("APART on " + n + ", the other way", x.pair(10, 0), n);
        }
    }

    /** How WELL one plays those that are 0 .. 4 apart, by what the text says. */
    private static void well(int kindMore, int says, int... due) {
        SomebodyElseTonight x = by("" + says, kindMore, 0, 0, 0);
        for (int n = 0; n < due.length; n++) {
            x.set(1, 0, APARTS[n]);
            Due.is("how WELL one of " + kindMore + " by " + says + ", " + n + " apart", x.pair(1, 3), due[n]);
        }
    }

    private static void wells() {
        // "0 GUEST: that less 10 times APART"
        well(0, 50, 50, 40, 30, 20, 10);
        well(9, 100, 100, 90, 80, 70, 60);
        // "1 ACTOR (a GUEST): 5 times APART WELLER."
        well(10, 50, 50, 45, 40, 35, 30);
        well(19, 100, 100, 95, 90, 85, 80);
        // "2 SHY (a GUEST)": as WELL as a GUEST.
        well(20, 50, 50, 40, 30, 20, 10);
        well(29, 100, 100, 90, 80, 70, 60);
        // "3 MIMIC (an ACTOR): 100 less MORE WELL, if APART is above 2.": 2 is not, 3 is.
        well(30, 50, 50, 45, 40, 100, 100);
        well(31, 0, 0, 0, 0, 99, 99);
        well(39, 100, 100, 95, 90, 91, 91);
        // "4 BACHELOR (a SHY): .. MORE WELLER."
        well(40, 50, 50, 40, 30, 20, 10);
        well(49, 50, 59, 49, 39, 29, 19);
        // "5 HIMSELF (a GUEST): 100 WELL, if APART is 0, else a third (cut)."
        well(50, 0, 100, 0, 0, 0, 0);
        well(59, 100, 100, 30, 26, 23, 20);
        well(50, 43, 100, 11, 7, 4, 1);
        well(50, 12, 100, 0, 0, 0, 0);
        well(50, 13, 100, 1, 0, 0, 0);
    }

    /** "WELL 0 .. 100, else the bound, in the end.": a bound ahead of the end would make each of these another number. */
    private static void wellInTheEnd() {
        well(10, 25, 25, 20, 15, 10, 5);
        well(10, 19, 19, 14, 9, 4, 0);
        well(0, 10, 10, 0, 0, 0, 0);
        well(0, 9, 9, 0, 0, 0, 0);
        well(45, 3, 8, 0, 0, 0, 0);
        well(49, 1, 10, 0, 0, 0, 0);
        well(49, 2, 11, 1, 0, 0, 0);
        well(49, 91, 100, 90, 80, 70, 60);
        well(49, 92, 100, 91, 81, 71, 61);
        well(49, 100, 100, 99, 89, 79, 69);
        well(41, 100, 100, 91, 81, 71, 61);
    }

    /** "if one PLAYS that one so WELL as it PASSES, or WELLER": the least that passes by a text, and one less. */
    private static void passesFrom(int kindMore, int apart, int says) {
        SomebodyElseTonight x = by("" + says, kindMore, 0, 0, APARTS[apart]);
        String who = "one of " + kindMore + ", " + apart + " apart, by ";
        Due.is(who + says, x.would(1, 3), 1);
        Due.is(who + says + ", so WELL as it passes", x.pair(1, 2), x.told(0, 5));
        Due.law(x, "plays " + (says - 1) + "; costs 0; owes 0;");
        Due.is(who + (says - 1), x.would(1, 3), kindMore / 10 == 4 ? 1 : 0);
        Due.is(who + (says - 1) + ", not so WELL", x.pair(1, 2), x.told(0, 5) - 1);
    }

    /** "0 GUEST: .. 50. .. 2 SHY: .. PASSES from twice MORE more on. (Whatever isn't told is as of the KIND above ..)" */
    private static void passing() {
        for (int more = 0; more < 10; more++) {
            int[] due = {50, 50, 50 + 2 * more, 50, 50 + 2 * more, 50};
            for (int kind = 0; kind < 6; kind++) {
                Due.is("from how WELL on " + kind + " passes with " + more, Due.club(10 * kind + more, 0).told(0, 5), due[kind]);
            }
        }
        for (int more = 0; more < 10; more += 9) {
            passesFrom(more, 1, 60);
            passesFrom(more, 4, 90);
            passesFrom(10 + more, 1, 55);
            passesFrom(10 + more, 4, 70);
            passesFrom(20 + more, 1, 60 + 2 * more);
            passesFrom(30 + more, 2, 60);
        }
        // A BACHELOR does 1 either way if one's own ANSWER is 0, but not if it is 3.
        for (int more = 0; more < 10; more += 9) {
            passesFrom(40 + more, 1, 60 + more);
            SomebodyElseTonight x = by("" + (60 + more), 40 + more, 192, 0, 193);
            Due.is("a BACHELOR passes", x.would(1, 0), 3);
            Due.law(x, "plays " + (59 + more) + "; costs 0; owes 0;");
            Due.is("a BACHELOR does not pass", x.would(1, 0), 2);
        }
        // HIMSELF: 100 if not apart, by whatever text; else never above 30.
        SomebodyElseTonight x = by("0", 50, 27, 0, 27, 0, 26);
        for (int m = 0; m < 4; m++) Due.is("HIMSELF, not apart", x.would(1, m), m);
        Due.law(x, "plays 100; costs 0; owes 0;");
        Due.is("HIMSELF, apart", x.would(2, 3), 3);
    }

    /** What one FALLS back to, by each of one's own and each of the other's ANSWERS. */
    private static void fallingBack() {
        for (int own = 0; own < 4; own++) {
            for (int others = 0; others < 4; others++) {
                // "0 GUEST: .. one's own; 2 SHY: FALLS back to 0; 4 BACHELOR: what both ANSWERS make together, modulo 4"
                int[] due = {own, own, 0, own, (own + others) % 4, own};
                for (int kind = 0; kind < 6; kind++) {
                    SomebodyElseTonight x = by("0", 10 * kind, 16 * own + 3, 0, 16 * others + 1);
                    Due.is("KIND " + kind + " falls back, " + own + " and " + others, x.would(1, 1), due[kind]);
                }
            }
        }
    }

    /** "TEXT 0, at first, and THE LAW: plays 60 + more * 3 ; costs 10 ; owes 5 ;" */
    private static void firstText() {
        for (int more = 0; more < 10; more++) {
            SomebodyElseTonight x = Due.club(more, 27, 0, 228);
            for (int m = 0; m < 4; m++) {
                Due.is("plays of TEXT 0", x.asks(0, 1, m), 60 + 3 * more);
                Due.is("costs of TEXT 0", x.asks(1, 1, m), 10);
                Due.is("owes of TEXT 0", x.asks(2, 1, m), 5);
            }
        }
    }

    private static void name(SomebodyElseTonight x, String name, int gAs, int matter, int due) {
        Due.law(x, "plays " + name + "; costs " + name + "; owes " + name + ";");
        Due.is(name + ", plays", x.asks(0, gAs, matter), due);
        Due.is(name + ", costs", x.asks(1, gAs, matter), Math.min(99, due));
        Due.is(name + ", owes", x.asks(2, gAs, matter), Math.min(99, due));
    }

    /** "of a GUEST as another one (or oneself): more: one's MORE; apart: APART; matter: the MATTER; night; often; purse: one's PURSE" */
    private static void names() {
        SomebodyElseTonight x = Due.club(9, 0, 4, 85);
        name(x, "more", 1, 0, 9);
        name(x, "more", 10, 0, 4);
        name(x, "more", 11, 0, 4);
        name(x, "apart", 1, 0, 4);
        name(x, "apart", 11, 0, 0);
        x = Due.club(0, 0, 0, 0);
        name(x, "matter", 1, 0, 0);
        name(x, "matter", 1, 3, 3);
        x.set(0, 1, 1);
        x.live();
        x.live();
        name(x, "often", 1, 2, 2);
        name(x, "often", 0, 2, 0);
        x = Due.club(0, 0, 0, 0);
        x.live();
        name(x, "night", 1, 2, 1);
        x.set(0, 2, 98);
        x.set(1, 2, 100);
        name(x, "purse", 1, 2, 98);
        name(x, "purse", 10, 2, 100);
        x = Due.club(0, 0, 0, 0);
        x.set(0, 2, 9999);
        x.set(1, 2, 0);
        name(x, "purse - 9900", 1, 0, 99);
        name(x, "purse", 10, 0, 0);
        name(x, "purse = 9999", 1, 0, 1);
        x = Due.club(0, 0);
        for (int n = 0; n < 99; n++) x.live();
        name(x, "night", 0, 0, 99);
        name(x, "often", 0, 0, 99);
    }

    /** "blanks (32, 10) may stand between": no other byte may, be it first or be it alone. */
    private static void bytesAheadOfAll() {
        for (int b = 0; b < 256; b++) {
            boolean blank = b == 32 || b == 10;
            Due.is("byte " + b + " alone", Due.type(new SomebodyElseTonight(), "" + (char) b), blank ? -101 : -100);
            int ahead = Due.type(new SomebodyElseTonight(), (char) b + "plays 1;costs 1;owes 1;");
            Due.is("byte " + b + " ahead of all", ahead, blank ? 1 : -100);
            int behind = Due.type(new SomebodyElseTonight(), "plays 1;costs 1;owes 1;" + (char) b);
            Due.is("byte " + b + " behind all", behind, blank ? 1 : -123);
        }
    }

    private static boolean isLetter(int b) {
        return b >= 97 && b <= 122;
    }

    private static boolean isDigit(int b) {
        return b >= 48 && b <= 57;
    }

    /** "FAULT: .. also of a byte that begins none, of a WORD that is neither KEY nor NAME": each byte where a ONE must stand. */
    private static void bytesAheadOfOne() {
        for (int b = 0; b < 256; b++) {
            int got = Due.type(new SomebodyElseTonight(), "plays " + (char) b + "1;costs 1;owes 1;");
            int due = -106;
            if (b == 32 || b == 10 || b == '-' || isDigit(b)) due = 1;
            // The ( stands well there, but its ) is not there where the ; is.
            if (b == '(') due = -108;
            Due.is("byte " + b + " ahead of a ONE", got, due);
        }
    }

    /** The same, each byte where a SIGN may stand. */
    private static void bytesBehindOne() {
        for (int b = 0; b < 256; b++) {
            int got = Due.type(new SomebodyElseTonight(), "plays 1" + (char) b + "1;costs 1;owes 1;");
            int due = -107;
            if (isDigit(b) || b == '+' || b == '-' || b == '*' || b == '<' || b == '=') due = 1;
            if (b == 32 || b == 10 || b == ';') due = -108;
            Due.is("byte " + b + " behind a ONE", got, due);
        }
    }

    /** "TOKENS, each as long as can be: WORDS (as many letters a .. z as stand there)": each byte behind a KEY. */
    private static void bytesBehindKey() {
        for (int b = 0; b < 256; b++) {
            int got = Due.type(new SomebodyElseTonight(), "plays" + (char) b + "1;costs 1;owes 1;");
            int due = -105;
            if (b == 32 || b == 10 || b == '-' || isDigit(b)) due = 1;
            if (b == '(') due = -107;
            if (isLetter(b)) due = -100;
            Due.is("byte " + b + " behind a KEY", got, due);
        }
    }

    /** "NUMBERS (as many digits as stand there; more than 4 are too long)". */
    private static void digits() {
        String[] good = {"0", "9", "00", "99", "0000", "0009", "9999"};
        String[] tooLong = {"00000", "00009", "99999", "10000", "123456", "0000000000000000", "4294967297"};
        for (String n : good) {
            SomebodyElseTonight x = Due.club(0, 0);
            Due.is("text of " + n, Due.type(x, "plays " + n + ";costs " + n + "=" + Integer.parseInt(n) + ";owes 1;"), 1);
            x.force(1);
            Due.is("plays " + n, x.asks(0, 0, 0), Math.min(100, Integer.parseInt(n)));
            Due.is(n + " is itself", x.asks(1, 0, 0), 1);
        }
        for (String n : tooLong) {
            Due.is("text of " + n, Due.type(new SomebodyElseTonight(), "plays " + n + ";costs 1;owes 1;"), -106);
            // What can't stand there ahead of it is the first; where no NUMBER can stand it is the same place.
            Due.is("text of 1 1 " + n, Due.type(new SomebodyElseTonight(), "plays 1 1 " + n + ";costs 1;owes 1;"), -108);
            Due.is("text of 1 " + n, Due.type(new SomebodyElseTonight(), "plays 1 " + n + ";costs 1;owes 1;"), -108);
        }
    }

    /** "THE TAPE (160 bytes at most)", "(the text's size, if it ends too early)". */
    private static void tape() {
        String text = "plays 1;costs 1;owes 1;";
        String blanks = " ".repeat(160);
        tapeOf(text + blanks.substring(text.length()), 1);
        tapeOf(blanks.substring(text.length()) + text, 1);
        tapeOf(blanks.substring(text.length()) + "plays 1;costs 1;owes 1:", -259);
        tapeOf(blanks.substring(text.length() - 1) + text.substring(0, text.length() - 1), -260);
        tapeOf(blanks, -260);
        tapeOf(blanks.substring(1) + "p", -259);
        tapeOf(blanks.substring(5) + "plays", -260);
        tapeOf("p" + blanks.substring(1), -100);
        tapeOf("a".repeat(160), -100);
        tapeOf("plays " + "1".repeat(154), -106);
        tapeOf("plays " + "1+".repeat(77), -260);
        tapeOf("plays " + "-1".repeat(77), -260);
        // Behind each number of bytes the place is told: what is empty, and each early end.
        for (int size = 0; size < text.length(); size++) {
            SomebodyElseTonight x = new SomebodyElseTonight();
            Due.feed(x, text.substring(0, size));
            boolean inWord = size < 5 || size > 8 && size < 13 || size > 16 && size < 20;
            int word = size < 5 ? 0 : size < 13 ? 8 : 16;
            Due.is("text that ends behind " + size, x.text(), inWord && size > word ? -100 - word : -100 - size);
        }
        // As many as there is room for, by each n: all of them come, one by one, or none.
        for (int n = 1; n <= 5; n++) {
            SomebodyElseTonight x = new SomebodyElseTonight();
            int size = 0;
            while (size + n <= 160) {
                size += n;
                Due.is("feed of " + n, x.feed(n, 32, 32, 32, 32, 32), size);
            }
            Due.is("feed of " + n + " behind " + size, x.feed(n, 32, 32, 32, 32, 32), FULL);
            Due.is("THE TAPE", x.count(4), size);
        }
        SomebodyElseTonight x = new SomebodyElseTonight();
        Due.is("bytes 0 and 255 come", x.feed(5, 0, 255, 0, 255, 0), 5);
    }

    private static void tapeOf(String text, int due) {
        SomebodyElseTonight x = new SomebodyElseTonight();
        Due.feed(x, text);
        Due.is("bytes on the tape", x.count(4), 160);
        Due.is("text of 160 bytes '" + text.trim() + "'", x.text(), due);
        Due.is("the tape is empty", x.count(4), 0);
    }

    /** "a ( , a not, a - ahead of a ONE while 5 of these are open": all rows of six of them that can stand one behind the other. */
    private static void fiveOpen() {
        Deque<String> rows = new ArrayDeque<>();
        rows.add("");
        while (!rows.isEmpty()) {
            String row = rows.poll();
            if (row.length() == 6) {
                nested(row);
                continue;
            }
            rows.add(row + "(");
            rows.add(row + "-");
            // A not can't stand behind a -.
            if (!row.endsWith("-")) rows.add(row + "!");
        }
    }

    private static String opened(String row) {
        return row.replace("-", "- ").replace("!", "not ").replace("(", "( ");
    }

    private static void nested(String row) {
        String five = row.substring(0, 5);
        String closing = " )".repeat(five.replaceAll("[^(]", "").length());
        String good = opened(five) + "1" + closing;
        Due.is("text of " + good, Due.type(new SomebodyElseTonight(), "plays " + good + ";costs 1;owes 1;"), 1);
        // What was open is not, behind it.
        String twice = good + " or " + good;
        if (twice.length() < 130) {
            Due.is("text of " + twice, Due.type(new SomebodyElseTonight(), "plays " + twice + ";costs 1;owes 1;"), 1);
        }
        String six = opened(row) + "1" + closing + " )";
        int place = 6 + opened(five).length();
        Due.is("text of " + six, Due.type(new SomebodyElseTonight(), "plays " + six + ";costs 1;owes 1;"), -100 - place);
        // While five are open a - between two ONES opens nothing.
        if (five.endsWith("(")) {
            String less = opened(five) + "1 - 1" + closing;
            Due.is("text of " + less, Due.type(new SomebodyElseTonight(), "plays " + less + ";costs 1;owes 1;"), 1);
        }
    }

    private static void worth(String e, int due) {
        SomebodyElseTonight x = by(e, 0, 0);
        Due.is(e, x.asks(0, 0, 0), due);
    }

    /** "An E is an int (32 bits, wrapping)": at both ends of it. */
    private static void ints() {
        String least = "(4096*4096*128)";
        String most = "(" + least + "-1)";
        worth(least + " < 0", 1);
        worth("0 < " + most, 1);
        worth(most + " + 1 = " + least, 1);
        worth(least + " - 1 = " + most, 1);
        worth("-" + least + " = " + least, 1);
        worth("-" + most + " = " + least + " + 1", 1);
        worth(least + " < " + most, 1);
        worth(most + " < " + least, 0);
        worth(least + " = " + most, 0);
        worth(least + " + " + least, 0);
        worth(most + " + " + most + " = -2", 1);
        worth(most + " * " + most, 1);
        worth(least + " * -1 = " + least, 1);
        worth("4096*4096*256", 0);
        worth("4096*4096*256 + 100", 100);
        worth("not 4096*4096*256", 1);
        // 99980001 times 43 is 4299140043, less 4294967296.
        worth("9999*9999*43 = 4172*1000 + 747", 1);
        worth("9999*9999*43 + 4*9999 < 9999*9999", 1);
        worth(least, 0);
        worth(most, 100);
    }

    /** "of or, and, not, <, = 1 or 0 (what is not 0 is true)": below 0, too. */
    private static void truth() {
        int[] numbers = {-9, -1, 0, 1, 2, 100};
        for (int a : numbers) {
            worth("not " + a, a == 0 ? 1 : 0);
            for (int b : numbers) {
                worth(a + " or " + b, a != 0 || b != 0 ? 1 : 0);
                worth(a + " and " + b, a != 0 && b != 0 ? 1 : 0);
                worth(a + " < " + b, a < b ? 1 : 0);
                worth(a + " = " + b, a == b ? 1 : 0);
            }
        }
    }

    /** "(plays 0 .. 100, costs, owes 0 .. 99, else the bound)". */
    private static void partsBounded() {
        int[] numbers = {-9999, -1, 0, 1, 98, 99, 100, 101, 9999};
        for (int n : numbers) {
            SomebodyElseTonight x = Due.club(0, 0, 0, 255);
            Due.law(x, "plays " + n + "; costs " + n + "; owes " + n + ";");
            Due.is("plays " + n, x.asks(0, 1, 0), Math.max(0, Math.min(100, n)));
            Due.is("costs " + n, x.asks(1, 1, 0), Math.max(0, Math.min(99, n)));
            Due.is("owes " + n, x.asks(2, 1, 0), Math.max(0, Math.min(99, n)));
            Due.is("how WELL oneself by " + n, x.pair(0, 2), Math.max(0, Math.min(100, n)));
            x.set(0, 1, 1);
            x.set(0, 2, 1000);
            int costs = x.evening(2);
            Due.is("costs together by " + n, costs, x.evening(0) * Math.max(0, Math.min(99, n)));
            x.live();
            int owes = Math.max(0, Math.min(99, n));
            // 0 as 1 pays costs, 1 owes 0 for it, and 1 owes 0 for itself.
            Due.is("PURSE of 0 by " + n, x.told(0, 4), 1000 - costs + Math.min(100 + costs, 2 * owes));
        }
    }

    /** "A GUEST is KNOWN on the first MATTER on which one DOES otherwise than the MANNERS of whom one PLAYS say; if there is any." */
    private static void known() {
        for (int unlike = 0; unlike < 16; unlike++) {
            int manners = 0;
            int first = -1;
            for (int m = 3; m >= 0; m--) {
                if ((unlike >> m & 1) == 0) continue;
                manners += 2 << 6 - 2 * m;
                first = m;
            }
            SomebodyElseTonight x = by("0", 0, 0, 0, manners);
            x.set(0, 1, 1);
            Due.is("KNOWN, unlike on " + unlike, x.known(0), first);
            Due.is("how many are KNOWN", x.evening(0), first < 0 ? 0 : 1);
            Due.is("live()", x.live(), first < 0 ? 0 : 1);
        }
    }

    /** Guest 0 as 1 is known and pays costs 40; nothing is owed. */
    private static void pays(int purse, int others, int paid) {
        SomebodyElseTonight x = Due.club(0, 0, 0, 255);
        Due.law(x, "plays 0; costs 40; owes 0;");
        x.set(0, 1, 1);
        x.set(0, 2, purse);
        x.set(1, 2, others);
        x.live();
        Due.is("PURSE of who pays, " + purse + " and " + others, x.told(0, 4), purse - paid);
        Due.is("PURSE of who is paid, " + purse + " and " + others, x.told(1, 4), others + paid);
        // The same sum, owed by 1 to 2 for what 2 does as 1.
        SomebodyElseTonight y = Due.club(0, 0, 0, 0, 0, 0);
        Due.law(y, "plays 100; costs 0; owes 40;");
        y.set(0, 2, others);
        y.set(1, 2, purse);
        y.set(2, 2, 0);
        y.set(0, 1, 2);
        y.set(1, 1, 2);
        y.set(2, 1, 1);
        // 0 and 1 as 2: 2 owes to 0, but has nothing yet.
        y.live();
        int owed = Math.min(40, purse);
        Due.is("PURSE of who owes, " + purse, y.told(1, 4), purse - owed);
        Due.is("PURSE of who is owed, " + purse, y.told(2, 4), owed);
        Due.is("PURSE of another one", y.told(0, 4), others);
    }

    /** "Who pays, pays no more than PURSE, and no more than the other's PURSE can take (nobody pays oneself)." */
    private static void paying() {
        pays(40, 0, 40);
        pays(39, 0, 39);
        pays(41, 0, 40);
        pays(1, 0, 1);
        pays(0, 0, 0);
        pays(100, 9959, 40);
        pays(100, 9960, 39);
        pays(100, 9998, 1);
        pays(100, 9999, 0);
        pays(9999, 9999, 0);
        pays(9999, 9958, 40);
        pays(39, 9960, 39);
        pays(39, 9961, 38);
        pays(38, 9960, 38);
        // What is owed is no more than the other's can take.
        for (int others = 9957; others <= 9999; others += 2) {
            SomebodyElseTonight x = Due.club(0, 0, 0, 0);
            Due.law(x, "plays 100; costs 0; owes 40;");
            x.set(0, 1, 1);
            x.set(1, 1, 1);
            x.set(0, 2, others);
            x.set(1, 2, 50);
            x.live();
            int first = Math.min(40, 9999 - others);
            int second = Math.min(50 - first, Math.min(40, 9999 - others - first));
            Due.is("PURSE that is paid, " + others, x.told(0, 4), others + first + second);
            Due.is("PURSE that pays, " + others, x.told(1, 4), 50 - first - second);
        }
        // Nobody pays oneself: one known as oneself, one alone owing to oneself.
        SomebodyElseTonight x = Due.club(20, 255);
        Due.law(x, "plays 0; costs 99; owes 99;");
        for (int purse : new int[] {0, 1, 100, 9900, 9999}) {
            x.set(0, 2, purse);
            Due.is("known as oneself", x.live(), 1);
            Due.is("PURSE", x.told(0, 4), purse);
        }
        SomebodyElseTonight two = Due.club(20, 255, 0, 0);
        Due.law(two, "plays 0; costs 99; owes 0;");
        Due.is("known as oneself", two.live(), 1);
        Due.is("PURSE", two.told(0, 4), 100);
        Due.is("PURSE", two.told(1, 4), 100);
    }

    /** "whom one PLAYS pays owes .. to the GUEST whose number is next to its own, not next to one's (behind the last the first)". */
    private static void behindTheLast() {
        for (int n = 2; n <= 6; n++) {
            for (int g = 0; g < n; g++) {
                for (int as = 0; as < n; as++) {
                    SomebodyElseTonight x = new SomebodyElseTonight();
                    // Only guest g owes anything, 7, by its MORE.
                    for (int h = 0; h < n; h++) x.guest(h == g ? 9 : 0, 0);
                    Due.law(x, "plays 100; costs 0; owes 7 * (more = 9);");
                    x.set(g, 1, as);
                    x.live();
                    int next = as == n - 1 ? 0 : as + 1;
                    for (int h = 0; h < n; h++) {
                        int due = h == as ? 93 : h == next ? 107 : 100;
                        Due.is("PURSE of " + h + " among " + n + ", " + g + " as " + as, x.told(h, 4), due);
                    }
                }
            }
        }
    }

    /** "At last THE NIGHT is 1 more": all of a night is by the one number; the same of OFTEN, till one's turn ends. */
    private static void atLastTheNight() {
        SomebodyElseTonight x = Due.club(0, 0, 0, 0, 0, 0);
        Due.law(x, "plays 100; costs 0; owes night * 2 + often * 3;");
        Due.play(x, 1, 1, 0);
        x.set(1, 2, 9000);
        x.live();
        for (int g = 0; g < 3; g++) Due.is("PURSE behind NIGHT 0", x.told(g, 4), g == 1 ? 9000 : 100);
        x.live();
        // By night 1 and OFTEN 1 each owes 5: 1 to 2 twice, 0 to 1.
        Due.is("PURSE behind NIGHT 1", x.told(0, 4), 95);
        Due.is("PURSE behind NIGHT 1", x.told(1, 4), 8995);
        Due.is("PURSE behind NIGHT 1", x.told(2, 4), 110);
        Due.is("OFTEN", x.pair(1, 1), 2);
        Due.is("OFTEN", x.pair(11, 1), 2);
        Due.is("OFTEN", x.pair(20, 1), 2);
    }

    /** "CAN BE, by some MATTERS (bits): .. on all of them": by none of them each one; "A DRAW as digits". */
    private static void canBe() {
        SomebodyElseTonight x = by("100", 0, 0, 0, 85, 0, 170, 0, 255, 0, 1, 0, 64);
        for (int g = 0; g < 6; g++) Due.is("may by none", x.may(g, 0), 63);
        Due.is("may(0, 1)", x.may(0, 1), 1 | 16);
        Due.is("may(0, 8)", x.may(0, 8), 1 | 32);
        Due.is("may(0, 15)", x.may(0, 15), 1);
        Due.play(x, 5, 4, 3, 2, 1, 0);
        Due.is("the DRAW that is", x.fits(15, 1), 654321);
        Due.is("how many", x.fits(15, 0), 1);
        Due.is("the first by none", x.fits(0, 1), 123456);
        Due.is("how many by none", x.fits(0, 0), 720);
    }

    /** "LOTS by a SEED (0 .. 99999)": at both ends, for each number of guests; one alone and nobody draw no LOT. */
    private static void lots() {
        for (int seed : new int[] {0, 1, 99998, 99999}) {
            for (int n = 0; n <= 6; n++) {
                SomebodyElseTonight x = new SomebodyElseTonight();
                for (int g = 0; g < n; g++) x.guest(0, 40 * g);
                int[] whom = new int[n];
                for (int g = 0; g < n; g++) whom[g] = g;
                java.math.BigInteger lot = java.math.BigInteger.valueOf(seed + 1);
                for (int k = n - 1; k > 0; k--) {
                    lot = lot.multiply(java.math.BigInteger.valueOf(48271)).mod(java.math.BigInteger.valueOf(2147483647));
                    int other = lot.mod(java.math.BigInteger.valueOf(k + 1)).intValue();
                    int was = whom[k];
                    whom[k] = whom[other];
                    whom[other] = was;
                }
                int themselves = 0;
                for (int g = 0; g < n; g++) if (whom[g] == g) themselves++;
                Due.is("lots by " + seed + " among " + n, x.lots(seed), themselves);
                for (int g = 0; g < n; g++) Due.is("whom " + g + " plays by " + seed + " among " + n, x.told(g, 3), whom[g]);
                // They are drawn from each as oneself, not from whom they play by now.
                Due.is("lots by " + seed + " again", x.lots(seed), themselves);
                for (int g = 0; g < n; g++) Due.is("whom " + g + " plays by " + seed + " again", x.told(g, 3), whom[g]);
            }
        }
    }
}
