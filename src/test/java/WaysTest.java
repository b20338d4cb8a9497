/** Promises 23 to 29: tram, stop, time, way, trip, balance, trips. */
public final class WaysTest {
    private static void due(String call, long got, long want) {
        Check.due(call, got, want);
    }

    /** The whole way, and nothing behind it. */
    private static void way(GrownTown x, int p, int q, int... plots) {
        for (int i = 0; i < plots.length; i++) due("way(" + p + ", " + q + ", " + i + ")", x.way(p, q, i), plots[i]);
        due("behind way(" + p + ", " + q + ")", x.way(p, q, plots.length), Check.NONE);
    }

    private static void trip(GrownTown x, int t, int takes, int alone, int... plots) {
        due("trips(" + t + ", 0)", x.trips(t, 0), takes);
        due("trips(" + t + ", 1)", x.trips(t, 1), plots.length);
        due("trips(" + t + ", 2)", x.trips(t, 2), alone);
        for (int i = 0; i < plots.length; i++) due("trips(" + t + ", 10 + " + i + ")", x.trips(t, 10 + i), plots[i]);
        due("behind trip " + t, x.trips(t, 10 + plots.length), Check.BAD);
    }

    private static void promise23() {
        GrownTown x = new GrownTown();
        x.ground(5, 1);
        int[][] bad = {{0, 0}, {-1, 0}, {0, -1}, {16, 0}, {0, 16}, {5, 0}, {0, 5}};
        for (int[] b : bad) due("tram(" + b[0] + ", " + b[1] + ")", x.tram(b[0], b[1]), Check.BAD);
        due("none", x.count(7), 0);
        for (int t = 0; t < 4; t++) due("tram " + t, x.tram(0, 15), t);
        due("the fifth", x.tram(0, 15), Check.FULL);
        due("bad ahead of full", x.tram(0, 0), Check.BAD);
        due("count(7)", x.count(7), 4);
        due("no acts", x.count(6), 1);
        due("a stop of land, road", x.board(2, 1) + x.ground(0, 2) + x.tram(0, 1), 1);
    }

    private static void promise24() {
        GrownTown x = new GrownTown();
        x.ground(5, 1);
        due("no tram", x.stop(0, 1), Check.BAD);
        x.tram(0, 15);
        int[][] bad = {{0, 15}, {0, 5}, {0, -1}, {0, 16}, {-1, 1}, {1, 1}};
        for (int[] b : bad) due("stop(" + b[0] + ", " + b[1] + ")", x.stop(b[0], b[1]), Check.BAD);
        due("the third stop, once more the first plot", x.stop(0, 0), 3);
        due("the fourth stop", x.stop(0, 15), 4);
        due("the fifth stop", x.stop(0, 1), 5);
        due("the sixth stop", x.stop(0, 2), 6);
        due("the seventh stop", x.stop(0, 3), Check.FULL);
        due("bad ahead of full", x.stop(0, 2), Check.BAD);
        x.board(4, 4);
        x.tram(1, 2);
        due("a tram anew has two stops", x.stop(0, 3), 3);
    }

    private static void promise25() {
        GrownTown x = new GrownTown();
        x.board(4, 2);
        x.height(1, 2);
        due("3 and 2 up", x.time(0, 1), 5);
        due("2 down and 3", x.time(1, 0), 5);
        due("over the hill", x.time(0, 2), 10);
        due("over the hill and on", x.time(0, 3), 13);
        x.height(1, 9);
        due("round the hill", x.time(0, 3), 15);
        x.ground(4, 2);
        x.ground(0, 2);
        due("a road", x.time(0, 4), 1);
        due("from a road to land", x.time(0, 5), 4);
        x.ground(5, 1);
        x.ground(1, 1);
        due("no way", x.time(0, 2), Check.NONE);
        due("to water", x.time(0, 5), Check.NONE);
        due("from water", x.time(5, 0), Check.NONE);
        due("from water to water", x.time(5, 1), Check.NONE);
        due("one and the same", x.time(5, 5) + x.time(0, 0), 0);
        x.tram(4, 6);
        due("by tram over water", x.time(4, 6), 3);
        due("back", x.time(6, 4), 3);
        due("a road, a tram, a step", x.time(0, 2), 1 + 3 + 3);
        x.ground(6, 1);
        due("a stop that is water", x.time(0, 6), Check.NONE);
        due("none goes off there", x.time(0, 2), Check.NONE);
        x.stop(0, 7);
        due("what is between does not matter", x.time(4, 7), 4);
        due("from the end too", x.time(7, 4), 4);
        int[][] bad = {{-1, 0}, {8, 0}, {0, -1}, {0, 8}};
        for (int[] b : bad) due("time(" + b[0] + ", " + b[1] + ")", x.time(b[0], b[1]), Check.BAD);
        changing();
    }

    private static void changing() {
        GrownTown x = new GrownTown();
        x.board(8, 8);
        x.tram(0, 7);
        x.stop(0, 56);
        x.tram(7, 63);
        due("to change takes 2 more", x.time(0, 63), 2 + 1 + 2 + 1);
        due("to ride on takes 1", x.time(0, 56), 2 + 1 + 1);
        due("to walk to a stop", x.time(8, 63), 3 + 6);
        due("a walk that is shorter", x.time(0, 1), 3);
        x.height(0, 9);
        due("trams do not climb", x.time(7, 0), 3);
        due("steps do", x.time(1, 0), 12);
        x.stop(0, 0);
        due("an end of the line that is its other end too", x.time(0, 56), 2 + 1);
    }

    private static void promise26() {
        GrownTown x = new GrownTown();
        way(x, 0, 15, 0, 1, 2, 3, 7, 11, 15);
        way(x, 15, 0, 15, 11, 7, 3, 2, 1, 0);
        way(x, 12, 3, 12, 8, 4, 0, 1, 2, 3);
        way(x, 6, 6, 6);
        due("i below 0", x.way(0, 1, -1), Check.BAD);
        int[][] bad = {{-1, 0}, {16, 0}, {0, -1}, {0, 16}};
        for (int[] b : bad) due("way(" + b[0] + ", " + b[1] + ", 0)", x.way(b[0], b[1], 0), Check.BAD);
        due("far behind", x.way(0, 1, Integer.MAX_VALUE), Check.NONE);
        x.ground(4, 1);
        x.ground(1, 1);
        due("no way", x.way(0, 15, 0), Check.NONE);
        due("to water", x.way(0, 1, 0), Check.NONE);
        due("i below 0 ahead of no way", x.way(0, 15, -1), Check.BAD);
        way(x, 1, 1, 1);
        waysByTram();
    }

    /** Of ways that take the same the least plots come first, whether they are gone or ridden. */
    private static void waysByTram() {
        GrownTown x = new GrownTown();
        x.board(8, 1);
        x.tram(4, 6);
        way(x, 4, 6, 4, 6);
        way(x, 3, 7, 3, 4, 6, 7);
        x.board(8, 2);
        x.tram(9, 10);
        way(x, 9, 10, 9, 10);
        due("a step and a tram take the same", x.time(9, 10), 3);
        x.tram(0, 9);
        x.stop(1, 10);
        way(x, 0, 10, 0, 9, 10);
        GrownTown y = new GrownTown();
        y.board(8, 8);
        y.tram(40, 20);
        y.stop(0, 5);
        y.stop(0, 20);
        y.stop(0, 61);
        due("riding on through 5, or changing at 20", y.time(40, 61), 6);
        way(y, 40, 61, 40, 20, 5, 20, 61);
        y.board(8, 8);
        y.tram(40, 20);
        y.stop(0, 63);
        y.stop(0, 20);
        y.stop(0, 61);
        way(y, 40, 61, 40, 20, 61);
        y.ground(20, 1);
        way(y, 40, 61, 40, 20, 63, 20, 61);
    }

    private static void promise27() {
        GrownTown x = new GrownTown();
        x.ground(1, 1);
        x.ground(4, 1);
        x.tram(0, 15);
        due("no way on foot", x.trip(0, 15), Check.STATE);
        due("to water", x.trip(15, 1), Check.STATE);
        due("from water", x.trip(1, 15), Check.STATE);
        int[][] bad = {{3, 3}, {1, 1}, {-1, 0}, {16, 0}, {0, -1}, {0, 16}};
        for (int[] b : bad) due("trip(" + b[0] + ", " + b[1] + ")", x.trip(b[0], b[1]), Check.BAD);
        for (int t = 0; t < 8; t++) due("trip " + t, x.trip(15, 2 + t % 2), t);
        due("the ninth", x.trip(15, 2), Check.FULL);
        due("state ahead of full", x.trip(15, 0), Check.STATE);
        due("bad ahead of state", x.trip(0, 0), Check.BAD);
        due("count(8)", x.count(8), 8);
    }

    private static void promise28() {
        GrownTown x = new GrownTown();
        due("without trips", x.balance(), 1);
        x.board(2, 2);
        x.trip(0, 3);
        due("one trip", x.balance(), 1);
        x.trip(3, 0);
        due("the first goes round the second, then none does", x.balance(), 2);
        due("all anew", x.balance(), 2);
        trip(x, 0, 6, 6, 0, 2, 3);
        trip(x, 1, 6, 6, 3, 1, 0);
        x.ground(2, 1);
        due("a way is gone", x.balance(), 1);
        trip(x, 0, 10, 6, 0, 1, 3);
        x.ground(1, 1);
        due("all are left out", x.balance(), 1);
        due("left out", x.trips(0, 0), Check.STATE);
        x.ground(2, 0);
        due("back again", x.balance(), 1);
        trip(x, 1, 10, 6, 3, 2, 0);
        GrownTown y = new GrownTown();
        y.board(3, 1);
        y.trip(0, 2);
        y.trip(0, 1);
        y.trip(2, 1);
        y.ground(2, 1);
        due("one that is left out crowds none", y.balance(), 1);
        due("trips(0, 0)", y.trips(0, 0), Check.STATE);
        trip(y, 1, 3, 3, 0, 1);
        due("trips(2, 0)", y.trips(2, 0), Check.STATE);
    }

    /** A town in which the trips go otherwise in eight rounds, one after another. */
    private static void manyRounds() {
        int[] grounds = {1, 0, 2, 0, 0, 2, 0, 2, 2, 2, 0, 0, 1, 1, 0, 0, 2, 2, 1, 0, 2, 0, 0, 2, 1, 0, 2, 2, 1, 0, 0, 1, 2, 0, 1, 0};
        int[] heights = {0, 0, 0, 0, 0, 0, 2, 0, 0, 3, 8, 8, 0, 0, 0, 0, 0, 0, 7, 0, 0, 0, 7, 0, 0, 0, 0, 0, 0, 0, 0, 3, 0, 0, 0, 4};
        int[] ends = {25, 5, 1, 29, 2, 35, 28, 0, 32, 35, 4, 35, 16, 4, 20, 35};
        GrownTown x = new GrownTown();
        NaiveTown naive = new NaiveTown();
        x.board(6, 6);
        naive.board(6, 6);
        for (int p = 0; p < 36; p++) {
            if (grounds[p] != 0) due("ground", x.ground(p, grounds[p]), naive.ground(p, grounds[p]));
            if (heights[p] != 0) due("height", x.height(p, heights[p]), naive.height(p, heights[p]));
        }
        for (int i = 0; i < 16; i += 2) due("trip", x.trip(ends[i], ends[i + 1]), naive.trip(ends[i], ends[i + 1]));
        due("nine rounds", x.balance(), 9);
        due("the naive town's", naive.balance(), 9);
        for (int t = 0; t < naive.trips.size(); t++) {
            for (int what = 0; what < 30; what++) due("trips(" + t + ", " + what + ")", x.trips(t, what), naive.trips(t, what));
        }
    }

    private static void promise29() {
        GrownTown x = new GrownTown();
        x.board(3, 2);
        x.trip(0, 2);
        x.tram(0, 2);
        trip(x, 0, 6, 6, 0, 1, 2);
        x.trip(1, 2);
        due("crowded without balance()", x.trips(0, 0), 8);
        trip(x, 1, 5, 3, 1, 2);
        x.height(1, 1);
        trip(x, 0, 10, 8, 0, 1, 2);
        x.trip(1, 2);
        x.trip(1, 0);
        trip(x, 0, 12, 8, 0, 3, 4, 5, 2);
        trip(x, 1, 6, 4, 1, 2);
        trip(x, 3, 4, 4, 1, 0);
        int[][] bad = {{-1, 0}, {4, 0}, {0, -1}, {0, 3}, {0, 9}, {0, 15}, {0, Integer.MAX_VALUE}};
        for (int[] b : bad) due("trips(" + b[0] + ", " + b[1] + ")", x.trips(b[0], b[1]), Check.BAD);
        x.ground(0, 1);
        due("left out", x.trips(0, 0), Check.STATE);
        due("left out, ahead of i beyond", x.trips(0, 74), Check.STATE);
        due("no such number, ahead of left out", x.trips(0, 3), Check.BAD);
        due("the others go on", x.trips(1, 0), 6);
    }

    public static void main(String[] args) {
        promise23();
        promise24();
        promise25();
        promise26();
        promise27();
        promise28();
        manyRounds();
        promise29();
        Check.finish("WaysTest");
    }
}
