/** Promises 1 to 6: a new object, board, ground, height, use, plot. */
public final class BoardTest {
    private static void due(String call, long got, long want) {
        Check.due(call, got, want);
    }

    private static void constants() {
        due("BAD", GrownTown.BAD, -1);
        due("STATE", GrownTown.STATE, -2);
        due("FULL", GrownTown.FULL, -3);
        due("NONE", GrownTown.NONE, -4);
        due("SPENT", GrownTown.SPENT, -6);
    }

    private static void promise1() {
        GrownTown x = new GrownTown();
        int[] counts = {16, 0, 0, 0, 0, 0, 0, 0, 0, 0, 0, 0, Check.NONE};
        for (int what = 0; what < counts.length; what++) due("new: count(" + what + ")", x.count(what), counts[what]);
        due("new: count(20)", x.count(20), 16);
        for (int p = 0; p < 16; p++) {
            for (int what = 0; what < 3; what++) due("new: plot(" + p + ", " + what + ")", x.plot(p, what), 0);
            due("new: owner", x.plot(p, 3), Check.NONE);
        }
        due("new: plot(16, 0)", x.plot(16, 0), Check.BAD);
        due("new: fault()", x.fault(), 0);
        due("new: law(0, 0)", x.law(0, 0), Check.BAD);
        due("new: told(0, 0)", x.told(0, 0), -100);
        due("new: was(0, 0)", x.was(0, 0), Check.BAD);
        for (int k = 0; k < 4; k++) due("new: draw(" + k + ")", x.draw(k, 0, 0), -11);
        due("new: below and beside", x.time(0, 4) * 100 + x.time(0, 1), 303);
    }

    private static void promise2() {
        GrownTown x = new GrownTown();
        int[][] bad = {{0, 1}, {1, 0}, {9, 1}, {1, 9}, {-1, 4}, {4, Integer.MIN_VALUE}, {Integer.MAX_VALUE, 2}};
        x.height(3, 7);
        for (int[] b : bad) due("board(" + b[0] + ", " + b[1] + ")", x.board(b[0], b[1]), Check.BAD);
        due("a bad board changes nothing", x.plot(3, 1), 7);
        Check.laws(x, "cap home 1;");
        x.tram(0, 1);
        x.trip(0, 1);
        x.plan(5, 1, 1);
        x.seeker(1, 5, 0, 0);
        Check.laws(x, "tax home 100;");
        x.year();
        x.note(0, 1, 1);
        x.sheet(0, 1, 7);
        Check.faulty(x, "tax home 101;", 3, 9);
        x.feed(5L);
        x.ground(9, 1);
        due("the chest", x.count(5), 10);
        due("board(8, 8)", x.board(8, 8), 1);
        int[] counts = {64, 0, 0, 0, 0, 0, 0, 0, 0, 0, 0, 8, 7};
        for (int what = 0; what < counts.length; what++) due("board: count(" + what + ")", x.count(what), counts[what]);
        due("board: the fault stays", x.fault(), 3);
        for (int p = 0; p < 64; p++) due("board: ground", x.plot(p, 0) + x.plot(p, 1) + x.plot(p, 2), 0);
        due("board: time(0, 63)", x.time(0, 63), 42);
        due("board(1, 1)", x.board(1, 1), 1);
        due("board: count(0)", x.count(0), 1);
        due("board: plot(1, 0)", x.plot(1, 0), Check.BAD);
        due("board(8, 1)", x.board(8, 1), 1);
        due("board: time(0, 7)", x.time(0, 7), 21);
        due("board(2, 3)", x.board(2, 3), 1);
        Check.laws(x, "wish home work 2 1;");
        for (int p = 0; p < 6; p++) x.use(p, 2);
        due("board: plots as far as 2 of plot 0 in 2 by 3", x.worth(0, 1), 14);
    }

    private static void promise3() {
        GrownTown x = new GrownTown();
        due("ground(5, 1)", x.ground(5, 1), 0);
        due("ground(5, 2)", x.ground(5, 2), 1);
        due("ground(5, 2) again", x.ground(5, 2), 2);
        due("plot(5, 0)", x.plot(5, 0), 2);
        due("each is an act", x.count(6), 3);
        int[][] bad = {{-1, 0}, {16, 0}, {0, -1}, {0, 3}, {Integer.MIN_VALUE, 0}, {0, Integer.MAX_VALUE}};
        for (int[] b : bad) due("ground(" + b[0] + ", " + b[1] + ")", x.ground(b[0], b[1]), Check.BAD);
        x.use(6, 3);
        due("ground of a used plot", x.ground(6, 0), Check.STATE);
        due("bad ahead of state", x.ground(6, 3), Check.BAD);
        due("no act", x.count(6), 4);
        Check.fillActs(x);
        due("state ahead of full", x.ground(6, 1), Check.STATE);
        due("full", x.ground(7, 1), Check.FULL);
        due("bad ahead of full", x.ground(16, 1), Check.BAD);
        due("full changes nothing", x.plot(7, 0), 0);
    }

    private static void promise4() {
        GrownTown x = new GrownTown();
        due("height(15, 9)", x.height(15, 9), 0);
        due("height(15, 4)", x.height(15, 4), 9);
        x.use(15, 1);
        due("height of a used plot", x.height(15, 0), 4);
        x.ground(14, 1);
        due("height of water", x.height(14, 3), 0);
        due("plot(14, 1)", x.plot(14, 1), 3);
        int[][] bad = {{-1, 0}, {16, 0}, {0, -1}, {0, 10}};
        for (int[] b : bad) due("height(" + b[0] + ", " + b[1] + ")", x.height(b[0], b[1]), Check.BAD);
        Check.fillActs(x);
        due("height: full", x.height(1, 1), Check.FULL);
        due("height: bad ahead of full", x.height(1, 10), Check.BAD);
        due("height: nothing changed", x.plot(1, 1), 0);
    }

    private static void promise5() {
        GrownTown x = new GrownTown();
        due("use(3, 1)", x.use(3, 1), 0);
        due("use(3, 3)", x.use(3, 3), 1);
        due("use(3, 0)", x.use(3, 0), 3);
        x.ground(2, 1);
        x.ground(1, 2);
        due("use of water", x.use(2, 1), Check.STATE);
        due("use of a road", x.use(1, 3), Check.STATE);
        due("no use of water", x.use(2, 0), 0);
        int[][] bad = {{-1, 0}, {16, 0}, {0, -1}, {0, 4}, {2, 4}};
        for (int[] b : bad) due("use(" + b[0] + ", " + b[1] + ")", x.use(b[0], b[1]), Check.BAD);
        due("acts", x.count(6), 6);
        x.seeker(1, 9, 0, 0);
        x.year();
        due("the owner", x.plot(0, 3), 0);
        due("its use again", x.use(0, 1), 1);
        due("it has no owner then", x.plot(0, 3), Check.NONE);
        due("who has left", x.told(0, 5), 1);
        due("and has no plot", x.told(0, 4), Check.NONE);
        due("the use is there", x.plot(0, 2), 1);
        due("it does not come again", x.year(), 0);
        Check.fillActs(x);
        due("use: state ahead of full", x.use(2, 2), Check.STATE);
        due("use: full", x.use(4, 2), Check.FULL);
    }

    private static void promise6() {
        GrownTown x = new GrownTown();
        x.ground(4, 2);
        x.height(4, 8);
        x.seeker(3, 9, 0, 0);
        x.seeker(2, 9, 0, 0);
        x.year();
        due("plot(4, 0)", x.plot(4, 0), 2);
        due("plot(4, 1)", x.plot(4, 1), 8);
        due("plot(0, 2)", x.plot(0, 2), 3);
        due("plot(0, 3)", x.plot(0, 3), 0);
        due("plot(1, 2)", x.plot(1, 2), 2);
        due("plot(1, 3)", x.plot(1, 3), 1);
        due("plot(2, 3)", x.plot(2, 3), Check.NONE);
        due("plot(0, 4)", x.plot(0, 4), Check.BAD);
        due("plot(0, -1)", x.plot(0, -1), Check.BAD);
        due("plot(16, 0)", x.plot(16, 0), Check.BAD);
        due("plot(-1, 3)", x.plot(-1, 3), Check.BAD);
    }

    public static void main(String[] args) {
        constants();
        promise1();
        promise2();
        promise3();
        promise4();
        promise5();
        promise6();
        Check.finish("BoardTest");
    }
}
