/** Promises 35 to 38: sheet, lay, draw, count. */
public final class SheetsTest {
    private static void due(String call, long got, long want) {
        Check.due(call, got, want);
    }

    private static void promise35() {
        GrownTown x = new GrownTown();
        int[][] bad = {{-1, 0, 1}, {4, 0, 1}, {0, -1, 1}, {0, 3, 1}, {0, 0, 129}, {0, 0, Integer.MAX_VALUE}, {4, 0, -1}, {0, 3, -1}};
        for (int[] b : bad) due("sheet(" + b[0] + ", " + b[1] + ", " + b[2] + ")", x.sheet(b[0], b[1], b[2]), Check.BAD);
        due("sheet(0, 0, -1)", x.sheet(0, 0, -1), -14);
        due("sheet(0, 2, min)", x.sheet(0, 2, Integer.MIN_VALUE), -14);
        due("nothing yet", x.count(12), Check.NONE);
        due("sheet(0, 0, 0)", x.sheet(0, 0, 0), 1);
        due("no cells", x.count(12), 0);
        due("sheet(0, 2, 128)", x.sheet(0, 2, 128), 1);
        due("128 cells", x.count(12), 128);
        x.board(1, 1);
        x.lay(0, 1, 5);
        due("sheet(0, 0, -5)", x.sheet(0, 0, -5), -14);
        due("it stays", x.draw(0, 2, 0), 1);
        due("a new row", x.sheet(0, 2, 128), 1);
        due("of cells 0", x.draw(0, 2, 0), 1);
        due("height 0", x.plot(0, 1), 0);
        for (int k = 1; k < 4; k++) due("sheet " + k, x.sheet(k, k - 1, 3), 1);
    }

    private static void promise36() {
        GrownTown x = new GrownTown();
        x.board(1, 1);
        for (int lane = 0; lane < 3; lane++) x.sheet(lane, lane, 3);
        due("lay(-1, 0, 1)", x.lay(-1, 0, 1), Check.BAD);
        due("lay(4, 0, 1)", x.lay(4, 0, 1), Check.BAD);
        due("nothing", x.lay(3, 0, 1), -11);
        due("nothing, and no cell", x.lay(3, 9, 1), -11);
        due("lay(0, -1, 1)", x.lay(0, -1, 1), -12);
        due("lay(0, 3, 1)", x.lay(0, 3, 1), -12);
        due("lay(0, max, 1)", x.lay(0, Integer.MAX_VALUE, 1), -12);
        for (int lane = 0; lane < 3; lane++) due("lay", x.lay(lane, 1, 256 * 256 + 256 + 4), 1);
        due("a byte", x.draw(0, 0, 0) * 10 + x.plot(0, 1), 14);
        due("a short", x.draw(1, 1, 0), -101);
        due("an int", x.draw(2, 2, 0), -101);
        x.lay(1, 1, 0x70005);
        x.lay(2, 1, 0x70005);
        due("a short of the lowest bits", x.draw(1, 1, 0) * 10 + x.plot(0, 1), 15);
        due("an int of all", x.draw(2, 2, 0), -101);
        x.lay(0, 1, 0xff);
        x.lay(1, 1, 0xffff);
        x.lay(2, 1, -1);
        for (int lane = 0; lane < 3; lane++) due("below 0", x.draw(lane, lane, 0), -101);
        x.lay(0, 0, 128);
        due("ground below 0", x.draw(0, 0, 0), -100);
        due("the latest cell", x.lay(0, 2, 1), 1);
    }

    private static void promise37() {
        GrownTown x = new GrownTown();
        x.board(2, 1);
        due("bad k", x.draw(4, 0, 0), Check.BAD);
        due("bad lane", x.draw(0, 3, 0), Check.BAD);
        due("bad lane ahead of nothing", x.draw(0, -1, 0), Check.BAD);
        due("nothing", x.draw(0, 1, 0), -11);
        x.sheet(0, 1, 6);
        due("another lane", x.draw(0, 0, 0), -13);
        due("another lane ahead of no cell", x.draw(0, 2, -5), -13);
        due("all as it is", x.draw(0, 1, 2), 0);
        due("no cell", x.draw(0, 1, 3), -12);
        due("no cell ahead", x.draw(0, 1, -1), -12);
        due("far beyond", x.draw(0, 1, Integer.MAX_VALUE), -12);
        due("far ahead", x.draw(0, 1, Integer.MIN_VALUE), -12);
        int[] cells = {1, 9, 0, 4, 3, 10};
        for (int i = 0; i < 6; i++) x.lay(0, i, cells[i]);
        due("cell 2 + 2 is none such", x.draw(0, 1, 2), -102);
        due("it is met ahead of the cell that is not there", x.draw(0, 1, 3), -100);
        x.lay(0, 4, 2);
        due("cell 2 + 3 is none such", x.draw(0, 1, 2), -103);
        due("nothing changed", x.count(6), 0);
        due("both become others", x.draw(0, 1, 0), 2);
        due("three acts", x.count(6), 3);
        due("as drawn", x.plot(0, 0) * 1000 + x.plot(0, 1) * 100 + x.plot(1, 0) * 10 + x.plot(1, 1), 1904);
        due("none becomes another", x.draw(0, 1, 0), 0);
        x.use(1, 1);
        x.lay(0, 3, 5);
        due("the height of a used plot", x.draw(0, 1, 0), 1);
        x.lay(0, 2, 2);
        x.lay(0, 0, 0);
        due("ground() would refuse one", x.draw(0, 1, 0), Check.STATE);
        due("then nothing changed", x.plot(0, 0), 1);
        x.lay(0, 1, 10);
        due("a cell ahead of that", x.draw(0, 1, 0), -101);
        x.lay(0, 1, 8);
        x.use(1, 0);
        full(x);
    }

    private static void full(GrownTown x) {
        for (int i = x.count(6); i < 58; i++) x.height(1, 5);
        due("58 acts and 3", x.draw(0, 1, 0), Check.FULL);
        due("58 acts yet", x.count(6), 58);
        due("nothing is drawn", x.plot(0, 0), 1);
        x.lay(0, 2, 0);
        due("58 acts and 2", x.draw(0, 1, 0), 1);
        due("60 acts", x.count(6), 60);
        due("none more is needed", x.draw(0, 1, 0), 0);
        GrownTown y = new GrownTown();
        y.board(1, 1);
        Check.laws(y, "cap home 0;");
        y.sheet(2, 2, 2);
        y.lay(2, 0, 1);
        y.seeker(1, 5, 0, 0);
        y.year();
        due("a ground is drawn", y.draw(2, 2, 0), 1);
        y.year();
        due("it is left out where a home has come", y.withoutMore(0), 1);
    }

    private static void promise38() {
        GrownTown x = new GrownTown();
        x.board(3, 2);
        Check.laws(x, "tax home 100;wish home road 1 2;");
        x.seeker(1, 5, 0, 0);
        x.year();
        x.year();
        x.use(1, 2);
        x.use(2, 3);
        x.use(4, 3);
        x.tram(0, 1);
        x.tram(0, 2);
        x.trip(0, 1);
        x.trip(0, 2);
        x.trip(0, 3);
        for (int k = 0; k < 4; k++) x.plan(5, 0, 1);
        for (int n = 0; n < 5; n++) x.note(0, 0, 0);
        x.feed(0L);
        x.sheet(0, 0, 7);
        int[] want = {6, 4, 2, 1, 2, 20, 5, 2, 3, 4, 5, 8, 7};
        for (int what = 0; what < want.length; what++) due("count(" + what + ")", x.count(what), want[what]);
        int[] uses = {2, 1, 1, 2};
        for (int u = 0; u < 4; u++) due("count(20 + " + u + ")", x.count(20 + u), uses[u]);
        int[] bad = {-1, 13, 19, 24, Integer.MIN_VALUE, Integer.MAX_VALUE};
        for (int what : bad) due("count(" + what + ")", x.count(what), Check.BAD);
    }

    public static void main(String[] args) {
        promise35();
        promise36();
        promise37();
        promise38();
        Check.finish("SheetsTest");
    }
}
