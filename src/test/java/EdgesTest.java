import java.lang.reflect.InvocationTargetException;
import java.lang.reflect.Method;
import java.lang.reflect.Modifier;
import java.util.ArrayList;
import java.util.Arrays;
import java.util.List;

/** Every call with every edge for every argument, in clubs of each size: none may throw, and what is asked changes nothing. */
public final class EdgesTest {
    private static final int[] EDGES = {Integer.MIN_VALUE, -15, -2, -1, 0, 1, 2, 3, 4, 5, 6, 7, 11, 12, 15, 16, 39, 40, 41, 55, 56, 99, 100,
        255, 256, 9999, 10000, 99999, 100000, Integer.MAX_VALUE - 1, Integer.MAX_VALUE};
    private static final int[] FEW = {Integer.MIN_VALUE, -1, 0, 1, 3, 5, 6, 40, 256, Integer.MAX_VALUE};
    private static final List<String> TRULY = List.of("feed", "text", "force", "guest", "set", "live", "film", "lots", "image", "back",
        "sheet", "cell", "copy", "guestsBy");

    private static int wrong = 0;
    private static int asked = 0;

    public static void main(String[] args) throws Exception {
        for (int guests = 0; guests <= 6; guests++) {
            for (Method m : SomebodyElseTonight.class.getDeclaredMethods()) {
                if (!Modifier.isPublic(m.getModifiers())) continue;
                int n = m.getParameterCount();
                SomebodyElseTonight x = club(guests);
                List<Long> was = look(x);
                all(x, m, new Object[n], 0, n > 3 ? FEW : EDGES);
                if (!TRULY.contains(m.getName()) && !look(x).equals(was)) fault(m.getName() + " changed something");
            }
        }
        System.out.println("EdgesTest: " + asked + " calls, " + wrong + " of them wrong");
        if (wrong != 0) System.exit(1);
    }

    private static void fault(String what) {
        wrong++;
        if (wrong < 20) System.out.println(what);
    }

    private static SomebodyElseTonight club(int guests) {
        SomebodyElseTonight x = new SomebodyElseTonight();
        Due.type(x, "plays 45 + more * 3 + matter; costs matter * 3 + 1; owes often + night;");
        for (int g = 0; g < guests; g++) x.guest(11 * g, 37 * g);
        x.force(1);
        for (int g = 0; g < guests; g++) x.set(g, 1, (g * 2 + 1) % guests);
        x.film(0, 0);
        if (guests > 0) Due.tell(x, 1, 0, 0, 0, guests - 1, 3, 2);
        x.sheet(2, 1, 7);
        x.image();
        x.live();
        return x;
    }

    /** All that can be seen of an object without changing it. */
    private static List<Long> look(SomebodyElseTonight x) {
        List<Long> seen = new ArrayList<>();
        for (int what = 0; what < 5; what++) seen.add((long) x.count(what));
        for (int g = 0; g < 6; g++) {
            for (int what = 0; what < 6; what++) seen.add((long) x.told(g, what));
            for (int as = 0; as < 6; as++) for (int what = 0; what < 6; what++) seen.add((long) x.pair(10 * g + as, what));
            for (int s = 0; s < 4; s++) seen.add((long) x.judge(s, g));
        }
        for (int m = 0; m < 16; m++) seen.add((long) x.fits(m, 1));
        return seen;
    }

    private static void all(SomebodyElseTonight x, Method m, Object[] args, int i, int[] edges) throws Exception {
        if (i < args.length) {
            for (int v : edges) {
                args[i] = v;
                // Of feed's five bytes the last two are enough.
                if (m.getName().equals("feed") && i > 0 && i < 4) args[i] = 32;
                all(x, m, args, i + 1, edges);
                if (m.getName().equals("feed") && i > 0 && i < 4) break;
            }
            return;
        }
        asked++;
        try {
            m.invoke(x, args);
        } catch (InvocationTargetException e) {
            fault(m.getName() + Arrays.toString(args) + " threw " + e.getCause());
        }
    }
}
