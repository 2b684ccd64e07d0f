import java.lang.reflect.InvocationTargetException;
import java.lang.reflect.Method;
import java.lang.reflect.Modifier;
import java.util.ArrayList;
import java.util.Arrays;
import java.util.List;

/** Every call with every edge for every argument, in clubs of each size: none may throw, and what is asked changes nothing. */
public final class EdgesTest {
    private static final int[] EDGES = {Integer.MIN_VALUE, -15, -2, -1, 0, 1, 2, 3, 4, 5, 6, 7, 11, 12, 15, 16, 39, 40, 41, 55, 56, 99, 100,
        255, 256, 9999, 10000, 99999, 100000, Integer.MAX_VALUE - 1, Integer.MAX_VALUE};
    private static final int[] FEW = {Integer.MIN_VALUE, -1, 0, 1, 3, 5, 6, 40, 256, Integer.MAX_VALUE};
    private static final List<String> TRULY = List.of("feed", "text", "force", "guest", "set", "live", "film", "lots", "image", "back",
        "sheet", "cell", "copy", "guestsBy");
    /** So many calls are asked of one object, which is used for 512 at most. */
    private static final int CALLS = 200;

    private static int wrong = 0;
    private static int asked = 0;

    public static void main(String[] args) throws Exception {
        for (int guests = 0; guests <= 6; guests++) {
            int n = guests;
            State state = new State("a club of " + guests, () -> club(n));
            for (Method m : SomebodyElseTonight.class.getDeclaredMethods()) {
                if (!Modifier.isPublic(m.getModifiers())) continue;
                List<Object[]> all = new ArrayList<>();
                all(m, new Object[m.getParameterCount()], 0, m.getParameterCount() > 3 ? FEW : EDGES, all);
                for (int from = 0; from < all.size(); from += CALLS) {
                    List<Object[]> some = all.subList(from, Math.min(all.size(), from + CALLS));
                    if (TRULY.contains(m.getName())) callAll(club(n), m, some);
                    else state.stays(m.getName(), x -> callAll(x, m, some));
                }
            }
        }
        System.out.println("EdgesTest: " + asked + " calls, " + wrong + " of them threw");
        if (wrong != 0) System.exit(1);
        Due.end("EdgesTest");
    }

    private static SomebodyElseTonight club(int guests) {
        SomebodyElseTonight x = new SomebodyElseTonight();
        Due.type(x, "plays 45 + more * 3 + matter; costs matter * 3 + 1; owes often + night;");
        for (int g = 0; g < guests && g < 5; g++) x.guest(11 * g, 37 * g);
        x.image();
        for (int g = 5; g < guests; g++) x.guest(11 * g, 37 * g);
        x.force(1);
        for (int g = 0; g < guests; g++) x.set(g, 1, (g * 2 + 1) % guests);
        x.film(0, 0);
        if (guests > 0) Due.tell(x, 1, 0, 0, 0, guests - 1, 3, 2);
        x.sheet(2, 1, 7);
        x.live();
        return x;
    }

    /** All rows of edges for the arguments from i on. */
    private static void all(Method m, Object[] args, int i, int[] edges, List<Object[]> rows) {
        if (i == args.length) {
            rows.add(args.clone());
            return;
        }
        // Of feed's five bytes the last two are enough.
        boolean left = m.getName().equals("feed") && i > 0 && i < 4;
        for (int v : left ? new int[] {32} : edges) {
            args[i] = v;
            all(m, args, i + 1, edges, rows);
        }
    }

    private static long callAll(SomebodyElseTonight x, Method m, List<Object[]> rows) {
        for (Object[] args : rows) {
            asked++;
            try {
                m.invoke(x, args);
            } catch (InvocationTargetException e) {
                wrong++;
                if (wrong < 20) System.out.println(m.getName() + Arrays.toString(args) + " threw " + e.getCause());
            } catch (IllegalAccessException e) {
                throw new IllegalStateException(e);
            }
        }
        return 0;
    }
}
