/** What the tests by promise share: a count of wrong answers, and a hand that types texts and sheets. */
final class Due {
    private static int wrong = 0;
    private static int asked = 0;

    private Due() {
    }

    static void is(String call, long got, long due) {
        asked++;
        if (got == due) return;
        wrong++;
        System.out.println(call + " answered " + got + ", due is " + due);
    }

    /** Ends the test, with exit code 1 if an answer was wrong. */
    static void end(String test) {
        System.out.println(test + ": " + asked + " answers, " + wrong + " of them wrong");
        if (wrong != 0) System.exit(1);
    }

    /** Puts a text onto the tape, five bytes by a call. */
    static void feed(SomebodyElseTonight x, String text) {
        for (int i = 0; i < text.length(); i += 5) {
            x.feed(Math.min(5, text.length() - i), byteAt(text, i), byteAt(text, i + 1), byteAt(text, i + 2),
                byteAt(text, i + 3), byteAt(text, i + 4));
        }
    }

    private static int byteAt(String text, int i) {
        return i < text.length() ? text.charAt(i) : 0;
    }

    /** Types a text; what text() answers. */
    static int type(SomebodyElseTonight x, String text) {
        feed(x, text);
        return x.text();
    }

    /** Types a text and makes it the law. */
    static void law(SomebodyElseTonight x, String text) {
        int t = type(x, text);
        if (t < 1) is("text() of " + text, t, 1);
        x.force(t);
    }

    /** Makes a sheet of ints of these numbers. */
    static void tell(SomebodyElseTonight x, int s, int... numbers) {
        x.sheet(s, 2, numbers.length);
        for (int i = 0; i < numbers.length; i++) x.cell(s, i, numbers[i]);
    }

    /** A club of guests, two numbers each as of guest(). */
    static SomebodyElseTonight club(int... guests) {
        SomebodyElseTonight x = new SomebodyElseTonight();
        for (int i = 0; i + 1 < guests.length; i += 2) x.guest(guests[i], guests[i + 1]);
        return x;
    }

    /** Lets all guests play as a row says. */
    static void play(SomebodyElseTonight x, int... whom) {
        for (int g = 0; g < whom.length; g++) x.set(g, 1, whom[g]);
    }
}
