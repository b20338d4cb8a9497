/** Promises 30 to 32: plan, chosen, build. */
public final class PlansTest {
    private static void due(String call, long got, long want) {
        Check.due(call, got, want);
    }

    private static void chosen(GrownTown x, int budget, int set, int cost, int then, int now) {
        int[] want = {set, cost, then, now};
        for (int what = 0; what < 4; what++) due("chosen(" + budget + ", " + what + ")", x.chosen(budget, what), want[what]);
    }

    private static void promise30() {
        GrownTown x = new GrownTown();
        x.ground(1, 1);
        x.ground(2, 2);
        x.use(3, 1);
        int[][] bad = {{-1, 0, 1}, {16, 0, 1}, {0, -1, 1}, {0, 4, 1}, {0, 0, 0}, {0, 0, 100}, {1, 0, 1}, {2, 1, 1}, {3, 2, 1}};
        for (int[] b : bad) due("plan(" + b[0] + ", " + b[1] + ", " + b[2] + ")", x.plan(b[0], b[1], b[2]), Check.BAD);
        for (int k = 0; k < 6; k++) due("plan " + k, x.plan(0, k % 4, k == 0 ? 1 : 99), k);
        due("the seventh", x.plan(0, 0, 1), Check.FULL);
        due("bad ahead of full", x.plan(1, 0, 1), Check.BAD);
        due("count(9)", x.count(9), 6);
        due("no acts", x.count(6), 3);
    }

    private static void promise31() {
        GrownTown x = new GrownTown();
        x.board(4, 1);
        chosen(x, 999, 0, 0, 0, 0);
        Check.laws(x, "wish home road 1 7;wish home work 3-15;wish shop home 1-10;from 1 wish home home 3 50;");
        x.use(0, 1);
        chosen(x, 0, 0, 0, 10, 10);
        due("a road beside", x.plan(1, 0, 5), 0);
        due("the same, dearer", x.plan(1, 0, 6), 1);
        due("a work: 10 less 15", x.plan(3, 2, 1), 2);
        due("a shop that does not gain", x.plan(1, 3, 1), 3);
        chosen(x, 4, 0, 0, 10, 10);
        chosen(x, 5, 1, 5, 17, 10);
        chosen(x, 999, 1, 5, 17, 10);
        due("a home", x.plan(2, 1, 4), 4);
        chosen(x, 4, 16, 4, 20, 10);
        chosen(x, 8, 16, 4, 20, 10);
        chosen(x, 9, 17, 9, 34, 10);
        due("the same home, the same cost", x.plan(2, 1, 4), 5);
        chosen(x, 999, 17, 9, 34, 10);
        x.ground(1, 1);
        chosen(x, 999, 16, 4, 20, 10);
        x.year();
        chosen(x, 999, 16, 4, 120, 10);
        int[][] bad = {{-1, 0}, {1000, 0}, {0, -1}, {0, 4}, {1000, 3}};
        for (int[] b : bad) due("chosen(" + b[0] + ", " + b[1] + ")", x.chosen(b[0], b[1]), Check.BAD_WORTH);
        due("it changes nothing", x.count(1) * 10 + x.plot(2, 2), 10);
        capped();
    }

    /** MAY is not asked, sums may be below 0, of equal sums the least cost, then the least set is chosen. */
    private static void capped() {
        GrownTown x = new GrownTown();
        Check.laws(x, "cap home 0;zone shop 0 0 7 7;");
        x.plan(0, 1, 9);
        x.plan(1, 2, 9);
        x.plan(2, 3, 9);
        chosen(x, 9, 1, 9, 10, 0);
        chosen(x, 18, 3, 18, 20, 0);
        chosen(x, 27, 7, 27, 30, 0);
        x.plan(3, 1, 8);
        chosen(x, 9, 8, 8, 10, 0);
        chosen(x, 17, 9, 17, 20, 0);
        x.use(5, 1);
        Check.laws(x, "wish home work 14 -99;wish home shop 14 -99;");
        chosen(x, 999, 9, 17, 30, 10);
        x.use(6, 2);
        chosen(x, 999, 0, 0, 10 - 99 + 10, 10 - 99 + 10);
        due("use(5, 0)", x.use(5, 0), 1);
        chosen(x, 999, 6, 18, 30, 10);
    }

    private static void promise32() {
        GrownTown x = new GrownTown();
        x.plan(0, 0, 1);
        x.plan(1, 2, 1);
        x.plan(0, 3, 1);
        x.plan(2, 1, 1);
        due("build(-1)", x.build(-1), Check.BAD);
        due("build(4)", x.build(4), Check.BAD);
        due("build(0)", x.build(0), 1);
        due("a road", x.plot(0, 0), 2);
        due("build(1)", x.build(1), 1);
        due("a work", x.plot(1, 2), 2);
        due("it has no owner", x.plot(1, 3), Check.NONE);
        due("build(2)", x.build(2), Check.STATE);
        due("build(1) again", x.build(1), Check.STATE);
        due("plans stay", x.count(9), 4);
        due("these are acts", x.count(6), 2);
        x.use(1, 0);
        due("it can be again", x.build(1), 1);
        Check.fillActs(x);
        due("state ahead of full", x.build(2), Check.STATE);
        due("full", x.build(3), Check.FULL);
        due("nothing is built", x.plot(2, 2), 0);
        GrownTown y = new GrownTown();
        Check.laws(y, "cap work 1;");
        y.plan(0, 2, 1);
        y.build(0);
        y.seeker(2, 5, 0, 0);
        y.year();
        due("what is built is grown anew too", y.withoutMore(0), 1);
        due("and remembered", y.was(0, 0), 2);
    }

    public static void main(String[] args) {
        promise30();
        promise31();
        promise32();
        Check.finish("PlansTest");
    }
}
