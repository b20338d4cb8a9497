/** Promises 33 and 34: note, known. */
public final class NotesTest {
    private static void due(String call, long got, long want) {
        Check.due(call, got, want);
    }

    private static void promise33() {
        GrownTown x = new GrownTown();
        due("no year is remembered", x.note(0, 0, 0), Check.BAD);
        x.year();
        x.year();
        int[][] bad = {{-1, 0, 0}, {2, 0, 0}, {0, -1, 0}, {0, 16, 0}, {0, 0, -1}, {0, 0, 4}};
        for (int[] b : bad) due("note(" + b[0] + ", " + b[1] + ", " + b[2] + ")", x.note(b[0], b[1], b[2]), Check.BAD);
        for (int n = 0; n < 16; n++) due("note " + n, x.note(n % 2, 15, n % 4), n);
        due("the 17th", x.note(0, 0, 0), Check.FULL);
        due("bad ahead of full", x.note(2, 0, 0), Check.BAD);
        due("count(10)", x.count(10), 16);
        due("no acts", x.count(6), 0);
    }

    private static void promise34() {
        GrownTown x = new GrownTown();
        x.use(3, 2);
        x.year();
        x.use(3, 3);
        x.year();
        due("remembered", x.known(1, 0, 3), 2);
        x.note(0, 3, 1);
        x.year();
        x.note(0, 3, 0);
        x.note(1, 3, 1);
        x.note(0, 4, 3);
        x.note(0, 3, 2);
        x.note(0, 3, 3);
        due("known in the year itself", x.known(0, 0, 3), 2);
        due("known ahead of the first note", x.known(1, 0, 3), 2);
        due("known in 2", x.known(2, 0, 3), 1);
        due("the latest of 3", x.known(3, 0, 3), 3);
        due("later", x.known(99, 0, 3), 3);
        due("of another year, in 2", x.known(2, 1, 3), 3);
        due("of another year, in 3", x.known(3, 1, 3), 1);
        due("of another plot", x.known(3, 0, 4), 3);
        due("of another plot, in 2", x.known(2, 0, 4), 0);
        due("of no note", x.known(50, 2, 3), 3);
        due("notes change nothing", x.was(0, 3), 2);
        due("k is less", x.known(0, 1, 3), Check.STATE);
        due("k is the same", x.known(2, 2, 3), 3);
        int[][] bad = {{-1, 0, 3}, {100, 0, 3}, {0, -1, 3}, {5, 3, 3}, {0, 0, -1}, {0, 0, 16}, {0, 2, 16}};
        for (int[] b : bad) due("known(" + b[0] + ", " + b[1] + ", " + b[2] + ")", x.known(b[0], b[1], b[2]), Check.BAD);
    }

    public static void main(String[] args) {
        promise33();
        promise34();
        Check.finish("NotesTest");
    }
}
