/** Promises 15 to 22: seeker, told, would, year, was, went, without, withoutMore. */
public final class SeekersTest {
    private static void due(String call, long got, long want) {
        Check.due(call, got, want);
    }

    private static void told(GrownTown x, int s, int... want) {
        for (int what = 0; what < want.length; what++) due("told(" + s + ", " + what + ")", x.told(s, what), want[what]);
    }

    private static void promise15() {
        GrownTown x = new GrownTown();
        int[][] bad = {{0, 1, 0, 0}, {4, 1, 0, 0}, {1, 0, 0, 0}, {1, 1000, 0, 0}, {1, 1, -10, 0}, {1, 1, 10, 0}, {1, 1, 0, -1}, {1, 1, 0, 100}};
        for (int[] b : bad) due("seeker", x.seeker(b[0], b[1], b[2], b[3]), Check.BAD);
        due("the first seeker", x.seeker(1, 1, -9, 0), 0);
        due("the second seeker", x.seeker(3, 999, 9, 99), 1);
        due("acts", x.count(6), 2);
        x.year();
        due("a year that went", x.seeker(1, 1, 0, 0), Check.BAD);
        for (int s = 2; s < 20; s++) due("seeker " + s, x.seeker(2, 5, 0, 1), s);
        due("the 21st seeker", x.seeker(2, 5, 0, 1), Check.FULL);
        due("bad ahead of full", x.seeker(2, 5, 0, 0), Check.BAD);
        due("count(3)", x.count(3), 20);
        GrownTown y = new GrownTown();
        Check.fillActs(y);
        due("60 acts", y.seeker(1, 1, 0, 0), Check.FULL);
        due("no seeker", y.count(3), 0);
    }

    private static void promise16() {
        GrownTown x = new GrownTown();
        x.seeker(2, 7, -3, 1);
        told(x, 0, 2, 7, -3, 1, Check.NONE, 0, 0, Check.NONE);
        x.year();
        told(x, 0, 2, 7, -3, 1, Check.NONE, 0, 0, Check.NONE);
        x.year();
        told(x, 0, 2, 7, -3, 1, 0, 0, 7, 1);
        x.use(0, 0);
        told(x, 0, 2, 7, -3, 1, Check.NONE, 1, 7, 1);
        x.year();
        told(x, 0, 2, 7, -3, 1, Check.NONE, 1, 7, 1);
        int[][] bad = {{-1, 0}, {1, 0}, {0, -1}, {0, 8}};
        for (int[] b : bad) due("told(" + b[0] + ", " + b[1] + ")", x.told(b[0], b[1]), -100);
    }

    private static void promise17() {
        GrownTown x = new GrownTown();
        x.board(3, 1);
        x.height(1, 2);
        x.height(2, 1);
        x.seeker(1, 50, 3, 0);
        x.seeker(1, 99, 3, 0);
        x.seeker(2, 14, 4, 0);
        x.seeker(2, 99, -9, 1);
        due("values 10 16 13, bid 16: the least seeker", x.would(0), 1);
        due("the same, let go by plot 1, then outbid at plot 2", x.would(1), 0);
        due("values 10 18 14, purse 14: outbid at plot 1", x.would(2), 2);
        due("its year has not come", x.would(3), Check.STATE);
        due("would changes nothing", x.plot(1, 2) + x.count(1), 0);
        due("no such seeker", x.would(4), Check.BAD);
        due("no such seeker", x.would(-1), Check.BAD);
        x.year();
        due("it has a plot", x.would(0), Check.STATE);
        x.use(1, 0);
        due("it has left", x.would(0), Check.STATE);
        x.height(1, 2);
        x.height(0, 9);
        due("value -8 is not asked", x.would(3), Check.NONE);
    }

    private static void settling() {
        GrownTown x = new GrownTown();
        x.board(2, 1);
        x.height(0, 5);
        x.seeker(1, 12, 1, 0);
        x.seeker(1, 13, 1, 0);
        x.seeker(3, 14, 1, 0);
        due("outbid at plot 0, of equal bids at plot 1 the least seeker's", x.would(0), 1);
        due("outbid at plot 0, let go at plot 1", x.would(1), Check.NONE);
        due("purse 14 holds plot 0", x.would(2), 0);
        due("year()", x.year(), 2);
        due("the bid at plot 1 is 10 for both: the least seeker", x.plot(1, 3), 0);
        GrownTown y = new GrownTown();
        y.board(2, 1);
        Check.laws(y, "cap home 1;zone home 0 0 0 0;");
        y.seeker(1, 9, 0, 0);
        y.seeker(1, 8, 0, 0);
        y.seeker(1, 7, 0, 0);
        due("a cap as the year begins", y.year(), 2);
        due("in the zone and outside", y.plot(0, 3) * 10 + y.plot(1, 3), 1);
        due("told(1, 6)", y.told(1, 6), 8);
        due("one has none", y.told(2, 4), Check.NONE);
        y.use(0, 0);
        due("another year: at the cap", y.year(), 0);
        y.use(1, 0);
        due("another year: below the cap", y.year(), 1);
        due("told(2, 4)", y.told(2, 4), 0);
        due("told(2, 7)", y.told(2, 7), 2);
    }

    private static void promise18() {
        GrownTown x = new GrownTown();
        x.board(4, 1);
        Check.laws(x, "wish home work 1 20;tax home 10;tax work 100;leave home 15;wish work home 3-3;from 1 tax home 0;");
        x.seeker(1, 999, 0, 0);
        x.seeker(2, 5, 0, 0);
        x.seeker(1, 999, 0, 1);
        due("worths as the year begins are 10", x.year(), 2);
        due("home at 0", x.plot(0, 3), 0);
        due("work at 1", x.plot(1, 2), 2);
        due("taxes: a tenth of 30, all of 7", x.went(0, 2), 3 + 7);
        due("none left", x.went(0, 1), 0);
        x.use(1, 0);
        due("the third one comes", x.year(), 1);
        due("all homes are worth 10: both leave", x.went(1, 1), 2);
        due("no taxes", x.went(1, 2), 0);
        due("none is left", x.count(1), 0);
        due("told(2, 5)", x.told(2, 5), 1);
        due("told(2, 7)", x.told(2, 7), 1);
        due("the chest", x.count(5), 10);
        due("they do not come again", x.year(), 0);
        due("THE YEAR", x.count(4), 3);
        for (int i = 3; i < 24; i++) due("year " + i, x.year(), 0);
        due("24 years are remembered", x.year(), Check.FULL);
        due("THE YEAR is the 24th", x.count(4), 24);
        roundsOfTaxes();
    }

    private static void roundsOfTaxes() {
        GrownTown x = new GrownTown();
        x.board(3, 1);
        Check.laws(x, "tax home 19;wish home shop 2-11;tax shop 50;");
        x.use(2, 3);
        x.seeker(1, 999, 0, 0);
        due("value -1 is not asked", x.year(), 0);
        x.use(2, 0);
        due("value 10", x.year(), 1);
        due("1.9 is 1", x.went(1, 2), 1);
        x.use(2, 3);
        x.year();
        due("below 0: none, and shops without owners pay none", x.went(2, 2), 0);
        due("the chest", x.count(5), 1);
        GrownTown rich = new GrownTown();
        Check.laws(rich, "wish home water 1 99;tax home 1;");
        rich.ground(1, 1);
        rich.seeker(1, 9, 0, 0);
        rich.year();
        due("a hundredth of 109", rich.went(0, 2), 1);
        GrownTown y = new GrownTown();
        Check.laws(y, "leave home 10;leave work 11;");
        y.seeker(1, 9, 0, 0);
        y.seeker(2, 9, 0, 0);
        y.year();
        due("10 is not below 10, but below 11", y.told(0, 5) * 10 + y.told(1, 5), 1);
        GrownTown z = new GrownTown();
        Check.laws(z, "wish home home 14 5;leave home 15;");
        z.seeker(1, 9, 0, 0);
        z.seeker(1, 9, 0, 0);
        z.year();
        due("worth as it was at the taxes", z.went(0, 1), 0);
        z.use(0, 0);
        z.seeker(1, 9, 0, 1);
        z.use(9, 1);
        z.year();
        due("owners and other homes", z.went(1, 1), 0);
        z.use(9, 0);
        z.use(0, 0);
        z.year();
        due("the last one is alone", z.went(2, 1), 1);
    }

    private static void promise19() {
        GrownTown x = new GrownTown();
        x.use(3, 2);
        x.year();
        x.use(3, 1);
        x.seeker(3, 5, 0, 1);
        x.year();
        x.use(3, 0);
        due("was(0, 3)", x.was(0, 3), 2);
        due("was(1, 3)", x.was(1, 3), 1);
        due("was(0, 0)", x.was(0, 0), 0);
        due("was(1, 0)", x.was(1, 0), 3);
        int[][] bad = {{-1, 0}, {2, 0}, {0, -1}, {0, 16}, {24, 0}};
        for (int[] b : bad) due("was(" + b[0] + ", " + b[1] + ")", x.was(b[0], b[1]), Check.BAD);
    }

    private static void promise20() {
        GrownTown x = new GrownTown();
        Check.laws(x, "tax home 50;from 1 leave home 11;");
        x.use(15, 3);
        x.seeker(1, 5, 0, 0);
        x.seeker(1, 5, 0, 0);
        x.year();
        x.year();
        int[][] want = {{2, 0, 10, 3}, {0, 2, 10, 1}};
        for (int year = 0; year < 2; year++) {
            for (int what = 0; what < 4; what++) due("went(" + year + ", " + what + ")", x.went(year, what), want[year][what]);
        }
        int[][] bad = {{-1, 0}, {2, 0}, {0, -1}, {0, 4}};
        for (int[] b : bad) due("went(" + b[0] + ", " + b[1] + ")", x.went(b[0], b[1]), Check.BAD);
        x.seeker(2, 5, 0, 2);
        x.year();
        x.use(0, 0);
        x.year();
        due("who left by use() did not leave in a year that goes", x.went(3, 1), 0);
    }

    /** A work and a home in year 0; the shop may not come in year 2 by a cap, but in year 3 by a later one. */
    private static GrownTown grown() {
        GrownTown x = new GrownTown();
        x.board(3, 1);
        Check.laws(x, "zone work 0 0 0 0;zone home 1 0 2 0;");
        x.seeker(2, 5, 0, 0);
        x.seeker(1, 5, 0, 0);
        x.year();
        x.ground(2, 2);
        x.year();
        x.use(1, 0);
        Check.laws(x, "cap shop 0;from 3 cap shop 9;");
        x.seeker(3, 9, 0, 2);
        x.year();
        x.year();
        return x;
    }

    private static void promise21() {
        GrownTown x = grown();
        due("as it is", x.was(3, 0) * 100 + x.was(3, 1) * 10 + x.was(3, 2), 230);
        due("without(0): the shop comes in year 2", x.without(0), 2);
        due("without(1): the shop does not come in year 3", x.without(1), 3);
        due("without(2): there is none", x.without(2), Check.NONE);
        due("without(11)", x.without(11), Check.NONE);
        due("without(12)", x.without(12), Check.BAD);
        due("without(-1)", x.without(-1), Check.BAD);
        due("it changes nothing", x.count(1) * 100 + x.count(4) * 10 + x.count(3), 243);
        due("without years", new GrownTown().without(0), Check.NONE);
        GrownTown y = new GrownTown();
        y.board(2, 1);
        Check.laws(y, "zone home 1 0 1 0;");
        y.seeker(3, 5, 0, 0);
        y.seeker(1, 5, 0, 0);
        y.year();
        due("shop at 0, home at 1", y.was(0, 0) * 10 + y.was(0, 1), 31);
        due("the same without the zone", y.without(0), Check.NONE);
        leftOut();
    }

    /** Acts that would be refused when the town is grown anew are left out. */
    private static void leftOut() {
        GrownTown x = new GrownTown();
        x.board(2, 1);
        Check.laws(x, "cap home 0;");
        x.seeker(1, 5, 0, 0);
        x.year();
        due("a ground on what is a home without the cap", x.ground(0, 1), 0);
        due("a use of the other plot", x.use(1, 3), 0);
        x.year();
        due("was", x.was(1, 0) * 10 + x.was(1, 1), 3);
        due("without the cap from year 0 on", x.without(0), 0);
        due("a home more, for the ground is left out", x.withoutMore(0), 1);
        GrownTown y = new GrownTown();
        y.board(1, 1);
        Check.laws(y, "leave home 99;");
        y.seeker(1, 5, 0, 0);
        y.year();
        y.ground(0, 2);
        y.year();
        y.ground(0, 0);
        y.use(0, 2);
        y.use(0, 0);
        y.year();
        due("the home stays without leave", y.without(0), 0);
        due("use(0, 0) makes it leave all the same", y.withoutMore(0), 0);
    }

    private static void promise22() {
        GrownTown x = grown();
        due("withoutMore(0)", x.withoutMore(0), 0);
        due("withoutMore(1): no shop", x.withoutMore(1), -1);
        due("withoutMore(2)", x.withoutMore(2), 0);
        due("withoutMore(11)", x.withoutMore(11), 0);
        due("withoutMore(12)", x.withoutMore(12), -1000);
        due("withoutMore(-1)", x.withoutMore(-1), -1000);
        GrownTown y = new GrownTown();
        Check.laws(y, "cap home 0;");
        y.seeker(1, 5, 0, 0);
        y.seeker(1, 5, 0, 0);
        due("no years", y.withoutMore(0), 0);
        due("no years, bad", y.withoutMore(12), -1000);
        y.year();
        due("two more", y.withoutMore(0), 2);
        y.use(4, 1);
        due("what came behind the latest year does not count", y.withoutMore(0), 2);
    }

    public static void main(String[] args) {
        promise15();
        promise16();
        promise17();
        settling();
        promise18();
        promise19();
        promise20();
        promise21();
        promise22();
        Check.finish("SeekersTest");
    }
}
