import java.util.ArrayList;
import java.util.List;
import java.util.function.Supplier;
import java.util.function.ToLongFunction;

/**
 * A state of an object, made anew as often as it is needed, with all that calls can see of it.
 * "They change nothing, but where it is told." and "What is asked changes nothing, but where it is told."
 * are asked here: the same state is made twice, one of the two answers the call, and both are looked at.
 */
final class State {
    private static final int SHEETS = 4;

    private final String name;
    private final Supplier<SomebodyElseTonight> made;
    private final List<Long> seen;

    State(String name, Supplier<SomebodyElseTonight> made) {
        this.name = name;
        this.made = made;
        seen = look(x -> 0);
    }

    /** The call is answered so, and leaves everything as it was. */
    void keeps(String call, ToLongFunction<SomebodyElseTonight> asked, long due) {
        Due.is(name + ": " + call, asked.applyAsLong(made.get()), due);
        stays(call, asked);
    }

    /** Whatever the call answers, it leaves everything as it was. */
    void stays(String call, ToLongFunction<SomebodyElseTonight> asked) {
        Due.is(name + ": changes by " + call, look(asked).equals(seen) ? 0 : 1, 0);
    }

    /** The call is answered so, and the look tells it: else the looks here would see too little. */
    void changes(String call, ToLongFunction<SomebodyElseTonight> done, long due) {
        Due.is(name + ": " + call, done.applyAsLong(made.get()), due);
        Due.is(name + ": changes by " + call, look(done).equals(seen) ? 0 : 1, 1);
    }

    /** The same, what is due being what another call answers ahead. */
    void changes(String call, ToLongFunction<SomebodyElseTonight> done, ToLongFunction<SomebodyElseTonight> ahead) {
        changes(call, done, ahead.applyAsLong(made.get()));
    }

    /** Some looks change what they look at, and an object is used for 512 calls, so each part has its own one. */
    private List<Long> look(ToLongFunction<SomebodyElseTonight> first) {
        List<Long> all = new ArrayList<>();
        club(after(first), all);
        image(after(first), all);
        tapeAndTexts(after(first), all);
        for (int s = 0; s < SHEETS; s++) sheet(after(first), s, all);
        return all;
    }

    private SomebodyElseTonight after(ToLongFunction<SomebodyElseTonight> first) {
        SomebodyElseTonight x = made.get();
        first.applyAsLong(x);
        return x;
    }

    private static void club(SomebodyElseTonight x, List<Long> all) {
        for (int what = 0; what < 5; what++) all.add((long) x.count(what));
        int n = x.count(0);
        for (int g = 0; g < n; g++) {
            for (int what = 0; what < 6; what++) all.add((long) x.told(g, what));
            for (int as = 0; as < n; as++) {
                all.add((long) x.pair(10 * g + as, 1));
                all.add((long) x.pair(10 * g + as, 4));
            }
        }
        for (int what = 0; what < 3; what++) all.add((long) x.evening(what));
    }

    private static void image(SomebodyElseTonight x, List<Long> all) {
        all.add((long) x.back());
        club(x, all);
    }

    private static void tapeAndTexts(SomebodyElseTonight x, List<Long> all) {
        // What is half typed is typed to its end, so that one sees what stood there.
        all.add((long) x.feed(5, 'e', 's', '9', ';', ' '));
        all.add((long) x.text());
        all.add((long) x.count(4));
        for (int t = 0; t < 6; t++) {
            all.add((long) x.force(t));
            for (int part = 0; part < 3; part++) all.add((long) x.asks(part, 0, 2));
        }
    }

    private static void sheet(SomebodyElseTonight x, int s, List<Long> all) {
        // A sheet is read by guests who come by it: that needs room for one more.
        x.back();
        x.image();
        int sort = 0;
        while (sort < 3 && x.guestsBy(s, sort, 0, 0) != 0) sort++;
        all.add((long) sort);
        int size = 0;
        for (int step = 32; step > 0; step /= 2) {
            if (x.copy(s, 0, s, 0, size + step) >= 0) size += step;
        }
        all.add((long) size);
        for (int i = 0; i < size; i += 2) pair(x, s, sort, Math.min(i, size - 2), all);
    }

    private static void pair(SomebodyElseTonight x, int s, int sort, int i, List<Long> all) {
        int came = x.guestsBy(s, sort, i, 1);
        all.add((long) came);
        if (came != 1) return;
        int g = x.count(0) - 1;
        all.add((long) (10 * x.told(g, 0) + x.told(g, 1)));
        all.add((long) x.told(g, 2));
        x.back();
    }
}
