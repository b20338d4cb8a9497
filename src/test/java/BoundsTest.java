import java.lang.reflect.Method;
import java.util.ArrayList;
import java.util.LinkedHashSet;
import java.util.List;
import java.util.Set;

/**
 * The bounds of each argument, in a new town, a rich one and a full one: what is told last is not BAD, what comes first
 * beyond it is, and so are the least int and the greatest; and what is BAD changes nothing.
 */
public final class BoundsTest {
    private static final int BAD_WORTH = -1000000, BAD_TOLD = -100, BAD_MORE = -1000;

    /** What an argument may be at least and at most, and what it is while others are looked at. */
    private record Arg(int low, int high, int base) {}

    private final Towns.Begun begun;

    private BoundsTest(Towns.Begun itsBegun) {
        begun = itsBegun;
    }

    private static Arg in(int low, int high) {
        return new Arg(low, high, low);
    }

    private static Arg in(int low, int high, int base) {
        return new Arg(low, high, base);
    }

    private static Method method(String name) {
        for (Method m : GrownTown.class.getMethods()) {
            if (m.getName().equals(name) && m.getDeclaringClass() == GrownTown.class) return m;
        }
        throw new IllegalStateException("no method " + name);
    }

    private static int call(Method m, GrownTown x, Object[] args) {
        try {
            return (int) m.invoke(x, args);
        } catch (ReflectiveOperationException e) {
            throw new IllegalStateException(m + " throws", e);
        }
    }

    private void bounds(String name, int bad, Arg... args) {
        Method m = method(name);
        boolean allCanBe = true;
        for (Arg a : args) allCanBe &= a.low <= a.high;
        for (int i = 0; i < args.length; i++) {
            for (int v : beyond(args[i])) {
                Object[] values = values(args, i, v);
                Check.refused(told(name, values), begun.town(), x -> call(m, x, values), bad);
            }
            if (!allCanBe) continue;
            for (int v : new int[] {args[i].low, args[i].high}) {
                Object[] values = values(args, i, v);
                int got = call(m, begun.town().get(), values);
                Check.due(told(name, values) + " is not BAD, but " + got, got == bad ? 1 : 0, 0);
            }
        }
    }

    /** An argument that may be as little or as great as an int has nothing beyond it there. */
    private static Set<Integer> beyond(Arg a) {
        Set<Integer> beyond = new LinkedHashSet<>(List.of(Integer.MIN_VALUE, Integer.MAX_VALUE));
        beyond.add(a.low - 1);
        beyond.add(a.high + 1);
        beyond.removeIf(v -> v >= a.low && v <= a.high);
        return beyond;
    }

    private String told(String name, Object[] values) {
        List<Object> all = new ArrayList<>(List.of(values));
        return begun.name() + " town: " + name + all;
    }

    private static Object[] values(Arg[] args, int at, int v) {
        Object[] values = new Object[args.length];
        for (int i = 0; i < args.length; i++) values[i] = i == at ? v : args[i].base;
        return values;
    }

    private Arg plot(int base) {
        return in(0, begun.plots() - 1, base);
    }

    private Arg use() {
        return in(1, 3);
    }

    private Arg law() {
        return in(0, begun.laws() - 1);
    }

    private Arg seeker() {
        return in(0, begun.seekers() - 1);
    }

    private Arg gone() {
        return in(0, begun.year() - 1);
    }

    private void board() {
        bounds("board", Check.BAD, in(1, 8), in(1, 8));
        bounds("ground", Check.BAD, plot(0), in(0, 2));
        bounds("height", Check.BAD, plot(0), in(0, 9));
        bounds("use", Check.BAD, plot(0), in(0, 3));
        bounds("plot", Check.BAD, plot(0), in(0, 3));
    }

    private void laws() {
        bounds("end", Check.BAD, in(0, begun.tape()));
        bounds("law", Check.BAD, law(), in(0, 3));
        bounds("worth", BAD_WORTH, plot(0), use());
        bounds("cause", BAD_WORTH, plot(0), use(), law());
        bounds("may", Check.BAD, plot(0), use());
    }

    private void seekers() {
        bounds("seeker", Check.BAD, use(), in(1, 999), in(-9, 9), in(begun.year(), 99));
        bounds("told", BAD_TOLD, seeker(), in(0, 7));
        bounds("would", Check.BAD, seeker());
        bounds("was", Check.BAD, gone(), plot(0));
        bounds("went", Check.BAD, gone(), in(0, 3));
        bounds("without", Check.BAD, in(0, 11));
        bounds("withoutMore", BAD_MORE, in(0, 11));
    }

    private void ways() {
        bounds("tram", Check.BAD, plot(1), plot(2));
        bounds("stop", Check.BAD, in(0, begun.trams() - 1, begun.trams() - 1), plot(4));
        bounds("time", Check.BAD, plot(1), plot(2));
        bounds("way", Check.BAD, plot(1), plot(2), in(0, Integer.MAX_VALUE));
        bounds("trip", Check.BAD, plot(1), plot(2));
        bounds("trips", Check.BAD, in(0, begun.trips() - 1), in(0, 2));
    }

    private void plansAndNotes() {
        bounds("plan", Check.BAD, plot(0), in(0, 3), in(1, 99));
        bounds("chosen", BAD_WORTH, in(0, 999), in(0, 3));
        bounds("build", Check.BAD, in(0, begun.plans() - 1));
        bounds("note", Check.BAD, gone(), plot(0), in(0, 3));
        bounds("known", Check.BAD, in(0, 99, 99), gone(), plot(0));
    }

    private void sheets() {
        bounds("sheet", Check.BAD, in(0, 3), in(0, 2), in(Integer.MIN_VALUE, 128, 0));
        bounds("lay", Check.BAD, in(0, 3), in(Integer.MIN_VALUE, Integer.MAX_VALUE, 0), in(Integer.MIN_VALUE, Integer.MAX_VALUE, 0));
        bounds("draw", Check.BAD, in(0, 3), in(0, 2), in(Integer.MIN_VALUE, Integer.MAX_VALUE, 0));
        bounds("count", Check.BAD, in(0, 12));
        bounds("count", Check.BAD, in(20, 23));
    }

    private void all() {
        board();
        laws();
        seekers();
        ways();
        plansAndNotes();
        sheets();
    }

    public static void main(String[] args) {
        for (Towns.Begun begun : new Towns.Begun[] {Towns.NEW, Towns.RICH, Towns.FULL}) new BoundsTest(begun).all();
        Check.finish("BoundsTest");
    }
}
