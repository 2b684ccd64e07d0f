/** Promises 1 to 6: the law. */
public final class LawTest {
    private static final int BAD = SomebodyElseTonight.BAD, FULL = SomebodyElseTonight.FULL;

    public static void main(String[] args) {
        aNewObject();
        feeding();
        faults();
        opening();
        fullOfTexts();
        forcing();
        asking();
        worth();
        deepest();
        bounds();
        Due.end("LawTest");
    }

    /** Promise 1: "No GUESTS."; promise 2: "0 GUESTS, 1 THE NIGHT, 2 TEXTS, 3 THE LAW, 4 bytes of THE TAPE. BAD." */
    private static void aNewObject() {
        SomebodyElseTonight x = new SomebodyElseTonight();
        Due.is("count(0)", x.count(0), 0);
        Due.is("count(1)", x.count(1), 0);
        Due.is("count(2)", x.count(2), 1);
        Due.is("count(3)", x.count(3), 0);
        Due.is("count(4)", x.count(4), 0);
        Due.is("count(-1)", x.count(-1), BAD);
        Due.is("count(5)", x.count(5), BAD);
        Due.is("told(0, 0) of none", x.told(0, 0), -5);
        Due.is("NONE", SomebodyElseTonight.NONE, -1);
        Due.is("STATE", SomebodyElseTonight.STATE, -3);
        Due.is("NO", SomebodyElseTonight.NO, -(1L << 62));
        x.guest(0, 0);
        x.guest(0, 0);
        x.live();
        Due.law(x, "plays 1; costs 1; owes 1;");
        Due.feed(x, "abc");
        Due.is("count(0)", x.count(0), 2);
        Due.is("count(1)", x.count(1), 1);
        Due.is("count(2)", x.count(2), 2);
        Due.is("count(3)", x.count(3), 1);
        Due.is("count(4)", x.count(4), 3);
    }

    /**
     * Promise 3: "The first n (1 .. 5) of five bytes (0 .. 255 each) come behind THE TAPE's, one by one: how many it has.
     * BAD: n, any of the five; FULL: they have not all room (none comes)."
     */
    private static void feeding() {
        SomebodyElseTonight x = new SomebodyElseTonight();
        Due.is("feed of 5", x.feed(5, 112, 108, 97, 121, 115), 5);
        Due.is("feed of 1", x.feed(1, 255, 0, 0, 0, 0), 6);
        // "BAD: n": 0 and 6; "any of the five": -1 and 256, behind the first n, too.
        Due.is("feed of 0", x.feed(0, 1, 1, 1, 1, 1), BAD);
        Due.is("feed of 6", x.feed(6, 1, 1, 1, 1, 1), BAD);
        Due.is("feed, a", x.feed(1, 256, 1, 1, 1, 1), BAD);
        Due.is("feed, b", x.feed(1, 1, -1, 1, 1, 1), BAD);
        Due.is("feed, c", x.feed(1, 1, 1, 256, 1, 1), BAD);
        Due.is("feed, d", x.feed(1, 1, 1, 1, -1, 1), BAD);
        Due.is("feed, e", x.feed(1, 1, 1, 1, 1, 256), BAD);
        Due.is("nothing came", x.count(4), 6);
        // "THE TAPE (160 bytes at most)"; "FULL: they have not all room (none comes)".
        for (int i = 0; i < 30; i++) x.feed(5, 32, 32, 32, 32, 32);
        Due.is("feed beyond the tape", x.feed(5, 32, 32, 32, 32, 32), FULL);
        Due.is("BAD ahead of FULL", x.feed(5, 32, 32, 32, 32, 256), BAD);
        Due.is("none came", x.count(4), 156);
        Due.is("feed to the end", x.feed(4, 32, 32, 32, 32, 0), 160);
        Due.is("feed behind the end", x.feed(1, 32, 0, 0, 0, 0), FULL);
        Due.is("the fault lies behind the word", x.text(), -105);
        Due.is("the tape is empty", x.count(4), 0);
        // "come behind THE TAPE's, one by one".
        Due.is("feed in order", x.feed(3, 'p', 'l', 'a', 0, 0), 3);
        Due.is("feed in order", x.feed(4, 'y', 's', '1', ';', '0'), 7);
        Due.is("feed in order", x.feed(2, '=', '1', ';', '0', '0'), 9);
        Due.is("the fault lies where costs must stand", x.text(), -107);
    }

    private static void fault(String text, int place) {
        SomebodyElseTonight x = new SomebodyElseTonight();
        Due.is("fault of '" + text + "'", Due.type(x, text), -100 - place);
        Due.is("texts behind the fault of '" + text + "'", x.count(2), 1);
        Due.is("tape behind the fault of '" + text + "'", x.count(4), 0);
    }

    private static void good(String e) {
        SomebodyElseTonight x = new SomebodyElseTonight();
        Due.is("text of '" + e + "'", Due.type(x, "plays " + e + ";costs 1;owes 1;"), 1);
    }

    /** The fault of an E lies as many bytes behind its own first one. */
    private static void faultOf(String e, int place) {
        fault("plays " + e + ";costs 1;owes 1;", 6 + place);
    }

    /**
     * Promise 4: "THE TAPE, which is empty then (by a FAULT, too), is a TEXT: its number; -100 less the place of its FAULT."
     * "FAULT: the place of the first byte of the first TOKEN that can't stand there".
     */
    private static void faults() {
        tooEarly();
        parts();
        words();
        e();
    }

    /** "(the text's size, if it ends too early)". */
    private static void tooEarly() {
        fault("", 0);
        fault("   ", 3);
        fault("\n \n", 3);
        fault("plays", 5);
        fault("plays 60", 8);
        fault("plays 60 ;", 10);
        fault("plays 60 ; costs 1 ; owes 2", 27);
        fault("plays 60 ; costs 1 ; owes 2  ", 29);
    }

    /** "TEXT: plays E ; costs E ; owes E ;", and nothing behind it. */
    private static void parts() {
        fault("plays 60 ; costs 1 ; owes 2 ; ;", 30);
        fault("plays 60 ; costs 1 ; owes 2 ; plays", 30);
        fault("plays 60 ; owes 1 ; costs 2 ;", 11);
        fault("costs 1 ;", 0);
        fault("Plays 60 ;", 0);
        // "blanks (32, 10) may stand between": no others.
        fault("plays\t60 ;", 5);
        fault("plays\r60 ;", 5);
        fault("plays60;costs1;owes1;x", 21);
        fault("plays 60 ; costs 1 ; owes 2 ; \u00ff", 30);
        fault("play 60 ;", 0);
        fault("playsx 60 ;", 0);
        fault("plays ; costs 1 ; owes 1 ;", 6);
    }

    /** "TOKENS, each as long as can be"; "a byte that begins none, .. a WORD that is neither KEY nor NAME, a NUMBER that is too long". */
    private static void words() {
        good("0001");
        good("9999");
        good("\n7\n");
        good("60*more*0");
        faultOf("00001", 0);
        faultOf("10000", 0);
        faultOf("60more", 2);
        faultOf("moreapart", 0);
        faultOf("more apart", 5);
        faultOf("notmore", 0);
        faultOf("morez", 0);
        faultOf("amore", 0);
        faultOf("mor", 0);
        faultOf("$", 0);
        faultOf("m_ore", 0);
        faultOf("more_", 4);
    }

    /** "AND { or AND }. .. perhaps < or = and a SUM. ..": each SIGN and KEY where it can't stand, each end that is missing. */
    private static void e() {
        faultOf("plays", 0);
        faultOf("2 costs", 2);
        faultOf("1 > 2", 2);
        faultOf("1 / 2", 2);
        faultOf("1 = 1 = 1", 6);
        faultOf("1 < 2 < 3", 6);
        faultOf("1 < 2 = 1", 6);
        good("(1 < 2) = 1");
        faultOf("3 + not 4", 4);
        faultOf("3 < not 4", 4);
        faultOf("- not 4", 2);
        good("3 + (not 4)");
        faultOf("3 +", 3);
        faultOf("+ 3", 0);
        faultOf("3 * * 4", 4);
        faultOf("or 3", 0);
        faultOf("3 or or 4", 5);
        faultOf("3 and", 5);
        faultOf("3 or", 4);
        faultOf("(3 or )", 6);
        faultOf("3 <", 3);
        faultOf("(3 = )", 5);
        faultOf("3 *", 3);
        faultOf("2 owes 3", 2);
        faultOf("2 plays 3", 2);
        faultOf("1 not 2", 2);
        faultOf("and 1", 0);
        fault("plays 1;costs 1;or 1;", 16);
        fault("plays 1;and 1;owes 1;", 8);
        faultOf("(3", 2);
        faultOf("3)", 1);
        faultOf("()", 1);
        faultOf("(3;)", 2);
        faultOf("not", 3);
    }

    /** Promise 4: "a ( , a not, a - ahead of a ONE while 5 of these are open (a ( till its ) , not and - till what they belong to ends)". */
    private static void opening() {
        good("(((((1)))))");
        faultOf("((((((1))))))", 5);
        good("- - - - - 1");
        faultOf("- - - - - - 1", 10);
        good("1 - - - - - - 1");
        good("not not not not not 1");
        faultOf("not not not not not not 1", 20);
        good("not - ( - ( 1 ) )");
        faultOf("not - ( - ( - 1 ) )", 12);
        good("(1)+(1)+(1)+(1)+(1)+(1)");
        good("-1*-1*-1*-1*-1*-1");
        good("not 1 and not 1 or not 1 and not 1 and not 1 and not 1");
        good("not 1 < ((((1))))");
        faultOf("not 1 < (((((1)))))", 12);
        good("not 1 and (((((1)))))");
        good("- 1 + (((((1)))))");
        good("- 1 * (((((1)))))");
        faultOf("-(((((1)))))", 5);
        faultOf("(((((not 1)))))", 5);
        faultOf("(((((- 1)))))", 5);
        good("(((((1 - 1)))))");
        faultOf("not (((((1)))))", 8);
    }

    /** "TEXTS are numbered from 0 on, 6 at most"; promise 4: "FULL (ahead of the FAULT; then THE TAPE stays)." */
    private static void fullOfTexts() {
        SomebodyElseTonight x = new SomebodyElseTonight();
        for (int t = 1; t <= 5; t++) Due.is("text()", Due.type(x, "plays 1;costs 1;owes 1;"), t);
        Due.is("count(2)", x.count(2), 6);
        Due.is("text() beyond the last", Due.type(x, "plays"), FULL);
        Due.is("the tape stays", x.count(4), 5);
        Due.is("FULL of an empty tape", new SomebodyElseTonight().text(), -100);
        Due.is("the law is as it was", x.count(3), 0);
    }

    /** Promise 5: "A TEXT is THE LAW: which was. BAD." */
    private static void forcing() {
        SomebodyElseTonight x = Due.club(0, 0);
        Due.type(x, "plays 1;costs 2;owes 3;");
        Due.type(x, "plays 4;costs 5;owes 6;");
        Due.is("force(2)", x.force(2), 0);
        Due.is("count(3)", x.count(3), 2);
        Due.is("asks(1, 0, 0)", x.asks(1, 0, 0), 5);
        Due.is("force(1)", x.force(1), 2);
        Due.is("asks(2, 0, 0)", x.asks(2, 0, 0), 3);
        Due.is("force(3)", x.force(3), BAD);
        Due.is("force(-1)", x.force(-1), BAD);
        Due.is("count(3)", x.count(3), 1);
        Due.is("force(0)", x.force(0), 1);
    }

    /** Promise 6: "What part 0 plays, 1 costs, 2 owes says .. BAD. It takes those of the call for any part." */
    private static void asking() {
        SomebodyElseTonight x = Due.club(3, 0, 9, 5);
        Due.is("asks(0, 0, 0)", x.asks(0, 0, 0), 69);
        Due.is("asks(0, 1, 0)", x.asks(0, 1, 0), 69);
        Due.is("asks(0, 10, 0)", x.asks(0, 10, 0), 87);
        Due.is("asks(1, 1, 2)", x.asks(1, 1, 2), 10);
        Due.is("asks(2, 1, 3)", x.asks(2, 1, 3), 5);
        Due.is("asks(-1, 0, 0)", x.asks(-1, 0, 0), BAD);
        Due.is("asks(3, 0, 0)", x.asks(3, 0, 0), BAD);
        Due.is("asks(0, 2, 0)", x.asks(0, 2, 0), BAD);
        Due.is("asks(0, 20, 0)", x.asks(0, 20, 0), BAD);
        Due.is("asks(0, -1, 0)", x.asks(0, -1, 0), BAD);
        Due.is("asks(0, 9, 0)", x.asks(0, 9, 0), BAD);
        Due.is("asks(0, 0, 4)", x.asks(0, 0, 4), BAD);
        Due.is("asks(0, 0, -1)", x.asks(0, 0, -1), BAD);
        Due.law(x, "plays 10*more+apart; costs 10*matter+apart; owes matter+night*10;");
        Due.is("plays of 0 as 1", x.asks(0, 1, 3), 32);
        Due.is("plays of 1 as 1", x.asks(0, 11, 3), 90);
        Due.is("costs of 0 as 1", x.asks(1, 1, 3), 32);
        // "It takes those of the call for any part": of owes not MATTER 0.
        Due.is("owes take the matter of the call", x.asks(2, 1, 3), 3);
        x.live();
        x.live();
        Due.is("owes by the night", x.asks(2, 1, 1), 21);
        Due.law(x, "plays often; costs purse - 90; owes often * 3;");
        Due.is("often of 0 as 0", x.asks(0, 0, 0), 2);
        Due.is("often of 0 as 1", x.asks(0, 1, 0), 0);
        x.set(0, 2, 97);
        x.set(1, 2, 133);
        Due.is("the purse of 0", x.asks(1, 1, 0), 7);
        Due.is("the purse of 1", x.asks(1, 10, 0), 43);
        Due.is("owes by often", x.asks(2, 11, 0), 6);
        // "(gAs: 10 times the GUEST, and as whom)": each two of six.
        SomebodyElseTonight y = Due.club(1, 0, 2, 3, 3, 15, 4, 63, 5, 255, 6, 84);
        Due.law(y, "plays more * 10 + apart; costs more * 10 + apart; owes more * 10 + matter;");
        for (int g = 0; g < 6; g++) {
            for (int as = 0; as < 6; as++) {
                int due = 10 * (g + 1) + y.pair(10 * g + as, 0);
                Due.is("plays of " + g + " as " + as, y.asks(0, 10 * g + as, as & 3), due);
                Due.is("costs of " + g + " as " + as, y.asks(1, 10 * g + as, as & 3), due);
                Due.is("owes of " + g + " as " + as, y.asks(2, 10 * g + as, as & 3), 10 * (g + 1) + (as & 3));
            }
        }
    }

    private static void worth(String e, int due) {
        SomebodyElseTonight x = Due.club(7, 0);
        Due.law(x, "plays " + e + "; costs " + e + "; owes " + e + ";");
        for (int part = 0; part < 3; part++) Due.is("part " + part + " of " + e, x.asks(part, 0, 2), due);
    }

    /** What an E is worth: "TERM { + or - TERM }" from the left on, "ONE { * ONE }" ahead of it; "NOT: not NOT, or SUM". */
    private static void worth() {
        worth("1 + 2 * 3", 7);
        worth("2 * 3 + 1", 7);
        worth("(1 + 2) * 3", 9);
        worth("10 - 3 - 2", 5);
        worth("10 - (3 - 2)", 9);
        worth("1 - -2", 3);
        worth("-2 * -3", 6);
        worth("- - 3", 3);
        worth("- (1 - 4) * 2", 6);
        worth("1 or 0 and 0", 1);
        worth("0 and 0 or 5", 1);
        worth("0 or 7", 1);
        worth("0 or 0", 0);
        worth("2 and 3", 1);
        worth("2 and 0", 0);
        worth("5", 5);
        worth("not 0", 1);
        worth("not 6", 0);
        worth("not not 6", 1);
        worth("not 0 = 1", 1);
        worth("(not 0) = 1", 1);
        worth("(not 1) = 1", 0);
        worth("not 1 < 2", 0);
        worth("not 1 and 0", 0);
        worth("not 0 and 2", 1);
        worth("2 < 3", 1);
        worth("3 < 3", 0);
        worth("4 < 3", 0);
        worth("-1 < 0", 1);
        worth("3 = 3", 1);
        worth("2 + 1 = 3", 1);
        worth("2 = 3", 0);
        worth("2 + (3 < 4) * 10", 12);
        worth("1 < 2 + 3", 1);
        worth("more", 7);
        worth("apart", 0);
        worth("matter", 2);
        worth("night", 0);
        worth("often", 0);
        worth("purse - 70", 30);
        worth("0 - 1 or 0", 1);
        worth("((((3))))-(2-(1-(0-1)))", 3);
        worth("1+(1+1*(1+1*(1+1*(1+1*(1+1)))))", 7);
    }

    /** As many numbers wait at once as can: five at each ( and five more; each level is 1 if what is in it is. */
    private static void deepest() {
        String level = "0or1and0=1-1*";
        String nested = level + "(" + level + "(" + level + "(" + level + "(" + level + "(" + level;
        SomebodyElseTonight x = Due.club(0, 0);
        Due.law(x, "plays " + nested + "1)))));costs 0;owes 0;");
        Due.is("plays of the deepest", x.asks(0, 0, 0), 1);
        Due.law(x, "plays " + nested + "2)))));costs 0;owes 0;");
        Due.is("plays of the deepest", x.asks(0, 0, 0), 0);
    }

    /** "(plays 0 .. 100, costs, owes 0 .. 99, else the bound)"; "An E is an int (32 bits, wrapping)". */
    private static void bounds() {
        SomebodyElseTonight x = Due.club(0, 0);
        Due.law(x, "plays 101; costs 100; owes 100;");
        Due.is("plays", x.asks(0, 0, 0), 100);
        Due.is("costs", x.asks(1, 0, 0), 99);
        Due.is("owes", x.asks(2, 0, 0), 99);
        Due.law(x, "plays 100; costs 99; owes 99;");
        Due.is("plays", x.asks(0, 0, 0), 100);
        Due.is("costs", x.asks(1, 0, 0), 99);
        Due.law(x, "plays -1; costs 0 - 5; owes -9999;");
        for (int part = 0; part < 3; part++) Due.is("below 0", x.asks(part, 0, 0), 0);
        // 9999 to the power of three is -1027349969 in 32 bits.
        worth("9999 * 9999 * 9999", 0);
        worth("0 < 9999 * 9999 * 9999", 0);
        worth("4096 * 4096 * 256 + 7", 7);
        worth("4096 * 4096 * 128 < 0", 1);
        worth("4096 * 4096 * 128 - 1 < 0", 0);
        worth("- (4096 * 4096 * 128) < 0", 1);
    }
}
