import java.lang.management.ManagementFactory;

/** What calls make is counted: objects are small, and no call makes any but text(). */
public final class RoomTest {
    private static final com.sun.management.ThreadMXBean ROOM = (com.sun.management.ThreadMXBean) ManagementFactory.getThreadMXBean();

    public static void main(String[] args) {
        SomebodyElseTonight x = Due.club(9, 27, 17, 228, 25, 99, 34, 255, 41, 3, 52, 77);
        Due.type(x, "plays 50 + more * 3 - night; costs matter; owes often;");
        Due.play(x, 1, 2, 3, 4, 5, 0);
        dear(x);
        long was = made();
        for (int i = 0; i < 512; i++) dear(x);
        long calls = made() - was;
        was = made();
        SomebodyElseTonight last = null;
        for (int i = 0; i < 100; i++) last = new SomebodyElseTonight();
        long each = (made() - was) / 100;
        System.out.println("RoomTest: " + calls + " bytes by 512 rounds of calls, " + each + " by an object");
        // The machine's own doings may be seen in the first number; a row made by a call would be some 10,000 and more.
        if (calls > 5000 || each > 10000 || last == null) {
            System.out.println("that is too much");
            System.exit(1);
        }
    }

    private static long made() {
        return ROOM.getThreadAllocatedBytes(Thread.currentThread().getId());
    }

    /** A round of calls of every kind but text(). */
    private static void dear(SomebodyElseTonight x) {
        x.feed(1, 32, 0, 0, 0, 0);
        x.force(1);
        x.guest(0, 0);
        x.set(0, 1, 1);
        x.evening(2);
        x.image();
        x.live();
        x.may(0, 15);
        x.fits(3, 1);
        x.next(0, 0);
        x.fewest();
        x.best(2, 0);
        x.asIf(0, 0, 20);
        x.learns(0, 0);
        x.film(0, 0);
        x.kinds(0, 0, 1);
        x.manners(0, 1, 5);
        x.whose(0);
        x.laws(0, 2);
        x.drawn(99, 2);
        x.lots(98);
        x.odds(0, 99, 0);
        x.chance(0, 0);
        x.back();
        x.sheet(1, 0, 40);
        x.cell(1, 0, 9);
        x.copy(0, 0, 1, 3, 20);
        x.guestsBy(1, 0, 0, 6);
        x.taken(6, 6);
    }
}
