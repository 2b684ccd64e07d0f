import java.lang.management.ManagementFactory;
import java.util.function.Consumer;

/**
 * LANGUAGE.md, rule 12, "What a run makes is counted": a run has room for some 7.3 million fields and elements.
 * Each call is asked 512 times of an object, as dear as it can be, and what these make is counted by bytes, some four each.
 */
public final class RoomTest {
    private static final com.sun.management.ThreadMXBean ROOM = (com.sun.management.ThreadMXBean) ManagementFactory.getThreadMXBean();
    private static final int CALLS = 512;
    private static final long MOST = 4 * 7300000L;

    private static long dearest = 0;
    private static boolean tooMuch = false;

    public static void main(String[] args) {
        // What is asked the first time makes the machine load what it needs.
        for (int times = 0; times < 2; times++) all();
        System.out.println("RoomTest: " + dearest + " bytes at most by " + CALLS + " calls");
        if (tooMuch) System.exit(1);
    }

    private static void all() {
        dearest = 0;
        tooMuch = false;
        made("a new object and few calls", x -> full());
        made("feed and text", x -> {
            Due.feed(x, "plays 1-1-1-1-1-1-1-1-1-1-1-1-1-1-1-1-1-1-1-1-1-1-1-1-1-1-1-1-1-1-1-1-1-1-1-1-1-1-1-1;costs 1;owes");
            x.text();
        });
        made("live", x -> {
            x.live();
            x.back();
        });
        made("evening", x -> x.evening(2));
        made("may", x -> x.may(0, 15));
        made("fits", x -> x.fits(3, 1));
        made("next", x -> x.next(0, 0));
        made("fewest", x -> x.fewest());
        made("best", x -> x.best(2, 0));
        made("chain", x -> x.chain(0, 99));
        made("asIf", x -> x.asIf(0, 0, 20));
        made("learns", x -> x.learns(0, 0));
        made("judge", x -> x.judge(0, 0));
        made("kinds", x -> x.kinds(0, 0, 1));
        made("manners", x -> x.manners(0, 1, 5));
        made("whose", x -> x.whose(0));
        made("laws", x -> x.laws(0, 2));
        made("film", x -> x.film(0, 0));
        made("drawn", x -> x.drawn(99, 2));
        made("lots", x -> x.lots(98));
        made("odds", x -> x.odds(0, 99, 0));
        made("chance", x -> x.chance(0, 0));
        made("image", x -> x.image());
        made("back", x -> x.back());
        made("sheet", x -> x.sheet(1, 0, 40));
        made("copy", x -> x.copy(0, 0, 0, 1, 38));
        made("guestsBy", x -> x.guestsBy(0, 0, 0, 6));
    }

    private static SomebodyElseTonight full() {
        SomebodyElseTonight x = Due.club(9, 27, 17, 228, 25, 99, 34, 255, 41, 3, 52, 77);
        Due.law(x, "plays 50 + more * 3 - night; costs matter; owes often;");
        Due.play(x, 1, 2, 3, 4, 5, 0);
        x.film(0, 0);
        x.image();
        return x;
    }

    private static void made(String call, Consumer<SomebodyElseTonight> c) {
        SomebodyElseTonight x = full();
        long was = bytes();
        for (int i = 0; i < CALLS; i++) c.accept(x);
        long made = bytes() - was;
        dearest = Math.max(dearest, made);
        if (made <= MOST) return;
        tooMuch = true;
        System.out.println(call + " made " + made + " bytes by " + CALLS + " calls");
    }

    private static long bytes() {
        return ROOM.getThreadAllocatedBytes(Thread.currentThread().getId());
    }
}
