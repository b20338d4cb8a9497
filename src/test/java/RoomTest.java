import com.sun.management.ThreadMXBean;
import java.lang.management.ManagementFactory;
import java.util.function.Supplier;
import java.util.function.ToIntFunction;

/** All calls of a run live in one room: what a new town takes of it is little, and what calls take is next to nothing. */
public final class RoomTest {
    /** Bytes: those of a new town, and those of a row for the laws of an act. */
    private static final int TOWN = 100000, LAWS = 1000;
    private static final ThreadMXBean THREADS = (ThreadMXBean) ManagementFactory.getThreadMXBean();
    private static GrownTown kept;

    private RoomTest() {
    }

    /** The least of several goes: the machine's own first steps take room too. */
    private static long taken(Supplier<GrownTown> begun, ToIntFunction<GrownTown> does) {
        long least = Long.MAX_VALUE;
        for (int i = 0; i < 5; i++) {
            kept = begun.get();
            long before = THREADS.getThreadAllocatedBytes(Thread.currentThread().getId());
            does.applyAsInt(kept);
            least = Math.min(least, THREADS.getThreadAllocatedBytes(Thread.currentThread().getId()) - before);
        }
        return least;
    }

    private static void atMost(String call, long got, long most) {
        Check.due(call + " takes " + got + " bytes, " + most + " at most", got <= most ? 1 : 0, 1);
    }

    private static void nothing(String call, ToIntFunction<GrownTown> does) {
        atMost(call + " in a rich town", taken(Towns::rich, does), 0);
        atMost(call + " in a full town", taken(Towns::full, does), 0);
    }

    private static void calls() {
        nothing("board", x -> x.board(8, 8));
        nothing("ground, height, use, plot", x -> x.ground(0, 2) + x.height(0, 1) + x.use(4, 1) + x.plot(0, 3));
        nothing("feed, end, fault, law", x -> x.end(0) + x.feed(1L) + x.fault() + x.law(0, 3));
        nothing("worth, cause, may", x -> x.worth(0, 1) + x.cause(0, 1, 1) + x.may(0, 1));
        nothing("seeker, told, would", x -> x.seeker(1, 9, 0, x.count(4)) + x.told(0, 4) + x.would(4));
        nothing("year, was, went", x -> x.year() + x.was(0, 0) + x.went(0, 1));
        nothing("time, way", x -> x.time(0, 8) + x.way(0, 8, 2));
        nothing("tram, stop, trip", x -> x.tram(0, 8) + x.stop(0, 1) + x.trip(0, 2));
        nothing("balance, trips", x -> x.balance() + x.trips(0, 10));
        nothing("plan, chosen, build", x -> x.plan(0, 1, 3) + x.chosen(999, 0) + x.build(0));
        nothing("note, known", x -> x.note(0, 0, 1) + x.known(9, 0, 0));
        nothing("sheet, lay, draw, count", x -> x.sheet(0, 2, 128) + x.lay(0, 1, 3) + x.draw(0, 2, 0) + x.count(12));
        atMost("laws()", taken(Towns::rich, x -> x.end(0) + x.laws()), LAWS);
        nothing("laws() that is FULL", x -> x.count(6) == 60 ? x.laws() : 0);
        nothing("laws() with a FAULT", x -> x.feed(0L) + x.laws());
    }

    /** Growing anew uses the same rows again, however often it is asked for, and so do laws that are told again. */
    private static void again() {
        nothing("without, withoutMore", x -> {
            int sum = 0;
            for (int k = 0; k < 12; k++) sum += x.without(k) + x.withoutMore(k);
            return sum;
        });
        atMost("laws told 120 times", taken(GrownTown::new, x -> {
            int sum = 0;
            for (int i = 0; i < 120; i++) sum += i == 60 ? x.board(4, 4) : x.laws();
            return sum;
        }), 60 * LAWS);
    }

    public static void main(String[] args) {
        atMost("a new town", taken(() -> null, x -> {
            kept = new GrownTown();
            return 1;
        }), TOWN);
        calls();
        again();
        Check.finish("RoomTest");
    }
}
