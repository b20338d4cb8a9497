/** The section "Terms", sentence by sentence, where it draws a line: what lies just on it, and just beyond it. */
public final class TermsTest {
    private static void due(String call, long got, long want) {
        Check.due(call, got, want);
    }

    private static GrownTown board(int w, int h) {
        GrownTown x = new GrownTown();
        x.board(w, h);
        return x;
    }

    // ---- laws

    private static void holds() {
        GrownTown x = new GrownTown();
        Check.laws(x, "from 2tax home 1;from 1tax home 2;tax home 3;from 1tax work 1;from 2cap home 5;cap home 6;"
            + "from 3zone home 0 0 0 0;from 1wish home shop 1 1;from 25leave home 1;from 24leave home 2;");
        String[] held = {"0010010000", "0101010100", "1001100100", "1001101100", "1001101100"};
        for (String year : held) {
            for (int k = 0; k < 10; k++) due("law " + k + " in " + x.count(4), x.law(k, 3), year.charAt(k) - '0');
            x.year();
        }
        while (x.count(4) < 24) {
            due("leave from 24 in " + x.count(4), x.law(9, 3), 0);
            x.year();
        }
        due("leave from 24", x.law(9, 3), 1);
        due("leave from 25", x.law(8, 3), 0);
    }

    /** Of zones and of wishes of one use all hold that have begun. */
    private static void holdTogether() {
        GrownTown x = board(3, 1);
        Check.laws(x, "zone home 0 0 0 0;from 1zone home 1 0 1 0;wish home shop 1 1;from 1wish home shop 1 5;from 2wish home shop 1 9;");
        x.use(1, 3);
        String[] held = {"10100", "11110", "11111"};
        int[] worths = {11, 16, 25};
        for (int year = 0; year < 3; year++) {
            for (int k = 0; k < 5; k++) due("law " + k + " in " + year, x.law(k, 3), held[year].charAt(k) - '0');
            due("worth in " + year, x.worth(0, 1), worths[year]);
            due("may in " + year, x.may(0, 2) * 10 + x.may(2, 2), 1);
            x.year();
        }
    }

    /** Of tax, cap, leave of one use the one with the greatest from alone, in whatever order they are told. */
    private static void greatestFrom() {
        String[] orders = {"tax home 10;from 1 tax home 20;from 2 tax home 50;", "from 2 tax home 50;from 1 tax home 20;tax home 10;",
            "from 1 tax home 20;tax home 10;from 2 tax home 50;"};
        for (String taxes : orders) {
            GrownTown x = board(2, 1);
            Check.laws(x, taxes + taxes.replace("tax home", "cap work").replace(" 10;", " 3;").replace(" 20;", " 1;").replace(" 50;", " 2;")
                + taxes.replace("tax", "leave").replace(" 10;", " 9;").replace(" 20;", " 8;").replace(" 50;", " 11;"));
            x.seeker(1, 9, 0, 0);
            x.use(1, 2);
            int[] dues = {1, 2, 5};
            for (int year = 0; year < 3; year++) {
                due("a work more in " + year, x.may(0, 2), year == 0 ? 1 : 0);
                x.year();
                due("taxes of " + year, x.went(year, 2), dues[year]);
                due("left in " + year, x.went(year, 1), year == 2 ? 1 : 0);
            }
            due("a cap of 2 of works", x.may(0, 2), 1);
        }
    }

    /** A shop anywhere is seen as far as it is, and no less far. */
    private static void howFar() {
        int[] looks = {0, 7, 27, 36, 56, 63};
        for (int q = 0; q < 64; q++) {
            GrownTown x = board(8, 8);
            x.use(q, 3);
            for (int far = 1; far <= 14; far++) {
                Check.tape(x, "wish home shop " + far + " 1;");
                x.laws();
                for (int p : looks) {
                    int d = Math.abs(p % 8 - q % 8) + Math.abs(p / 8 - q / 8);
                    due("worth of " + p + " with a shop at " + q + " and a wish of " + far, x.worth(p, 1), d > 0 && d <= far ? 11 : 10);
                }
            }
        }
    }

    private static void worth() {
        GrownTown x = board(3, 1);
        Check.laws(x, "wish home home 2 1;wish home water 2 10;wish home road 2 20;wish home work 1 99;wish home work 2-99;");
        x.use(1, 1);
        due("not the plot itself", x.worth(1, 1), 10);
        due("a home beside", x.worth(0, 1), 11);
        due("no wish of works", x.worth(0, 2), 10);
        x.use(1, 0);
        x.ground(1, 1);
        due("not the water itself", x.worth(1, 1), 10);
        due("water beside", x.worth(0, 1), 20);
        x.ground(1, 2);
        due("not the road itself", x.worth(1, 1), 10);
        due("a road beside, no water", x.worth(0, 1), 30);
        x.ground(1, 0);
        x.use(1, 2);
        due("99 and -99", x.worth(0, 1), 10);
        x.use(2, 2);
        due("99 and twice -99", x.worth(0, 1), -89);
        due("cause 99", x.cause(0, 1, 3), 99);
        due("cause -198", x.cause(0, 1, 4), -198);
        due("cause of land and no use", x.cause(0, 1, 0) + x.cause(0, 1, 1) + x.cause(0, 1, 2), 0);
        GrownTown y = board(8, 8);
        Check.laws(y, "wish home work 14 99;".repeat(12));
        for (int p = 0; p < 58; p++) y.use(p, 2);
        due("58 works, 12 wishes", y.worth(63, 1), 10 + 58 * 99 * 12);
        due("57 others", y.worth(0, 1), 10 + 57 * 99 * 12);
    }

    private static void zones() {
        GrownTown x = board(8, 8);
        Check.laws(x, "zone home 2 1 5 3;from 1 zone shop 0 0 7 7;");
        for (int p = 0; p < 64; p++) {
            boolean in = p % 8 >= 2 && p % 8 <= 5 && p / 8 >= 1 && p / 8 <= 3;
            due("may " + p, x.may(p, 1) * 100 + x.may(p, 2) * 10 + x.may(p, 3), in ? 100 : 111);
        }
        x.year();
        for (int p = 0; p < 64; p++) {
            boolean in = p % 8 >= 2 && p % 8 <= 5 && p / 8 >= 1 && p / 8 <= 3;
            due("may " + p + " in year 1", x.may(p, 1) * 100 + x.may(p, 2) * 10 + x.may(p, 3), in ? 101 : 1);
        }
        GrownTown y = board(3, 2);
        Check.laws(y, "zone home 7 7 7 7;zone work 2 1 7 7;");
        for (int p = 0; p < 6; p++) due("a zone that goes beyond the board", y.may(p, 1), p == 5 ? 0 : 1);
    }

    private static void caps() {
        for (int cap = 0; cap < 5; cap++) {
            GrownTown x = board(3, 2);
            Check.laws(x, "cap home " + cap + ";from 1 cap home " + (cap + 1) + ";");
            for (int homes = 0; homes < 5; homes++) {
                due(homes + " homes at a cap of " + cap, x.may(5, 1), homes < cap ? 1 : 0);
                due("no cap of shops", x.may(5, 3), 1);
                x.use(homes, 1);
            }
            x.year();
            due("five homes at a cap one more", x.may(5, 1), 0);
            x.use(4, 2);
            due("four homes", x.may(5, 1), 4 < cap + 1 ? 1 : 0);
        }
        GrownTown x = board(8, 8);
        Check.laws(x, "cap home 58;cap work 57;");
        for (int p = 0; p < 57; p++) x.use(p, 1);
        due("57 of 58", x.may(63, 1), 1);
        x.use(57, 1);
        due("58 of 58", x.may(63, 1), 0);
        x.use(57, 2);
        due("57 of 58 again", x.may(63, 1), 1);
    }

    /** Each act does what it is for and nothing else: no tax, cap, leave zones, no zone is a wish, without a law all stays. */
    private static void eachForItself() {
        GrownTown x = board(2, 2);
        Check.laws(x, "tax home 0;leave home 0;tax work 0;leave shop 0;cap shop 64;zone home 0 1 5 5;zone work 1 1 7 7;");
        for (int u = 1; u < 4; u++) due("may without a zone", x.may(0, u) + x.may(1, u), 2);
        for (int p = 0; p < 3; p++) x.use(p, 1 + p);
        for (int p = 0; p < 4; p++) {
            for (int u = 1; u < 4; u++) {
                due("worth without a wish", x.worth(p, u), 10);
                for (int k = 0; k < 7; k++) due("cause of what is no wish", x.cause(p, u, k), 0);
            }
        }
        String[] noZones = {"tax home 0;", "cap home 0;", "leave home 0;", "wish home home 1 0;", "wish home home 1 5;"};
        for (String law : noZones) {
            GrownTown y = board(8, 2);
            Check.laws(y, law);
            for (int p = 0; p < 16; p++) due("may where no zone is", y.may(p, 2) + y.may(p, 3), 2);
        }
        GrownTown y = board(3, 1);
        Check.laws(y, "wish home work 2-99;zone work 1 0 2 0;leave work 50;tax work 100;");
        y.seeker(1, 9, 0, 0);
        y.year();
        y.use(1, 2);
        y.use(2, 2);
        y.year();
        due("a worth below 0", y.worth(0, 1), -188);
        due("without a tax", y.went(1, 2), 0);
        due("and without a leave", y.told(0, 5), 0);
        due("it stays", y.was(1, 0), 1);
    }

    // ---- seekers

    private static void bids() {
        int[][] purses = {{1, 1}, {9, 9}, {10, 10}, {11, 10}, {999, 10}};
        for (int[] purse : purses) {
            GrownTown x = board(1, 1);
            x.seeker(1, purse[0], 0, 0);
            due("a value of 10", x.year(), 1);
            due("the bid of a purse of " + purse[0], x.told(0, 6), purse[1]);
        }
        int[][] tastes = {{-9, 1, 1}, {-9, 2, 0}, {-1, 9, 1}, {-2, 5, 0}, {-5, 2, 0}, {-3, 3, 1}, {-9, 9, 0}, {9, 9, 91}, {9, 0, 10}, {-9, 0, 10}, {0, 9, 10}};
        for (int[] taste : tastes) {
            GrownTown x = board(1, 1);
            x.height(0, taste[1]);
            x.seeker(2, 999, taste[0], 0);
            due("would", x.would(0), taste[2] > 0 ? 0 : Check.NONE);
            due("a taste of " + taste[0] + " at " + taste[1], x.year(), taste[2] > 0 ? 1 : 0);
            due("the bid", x.told(0, 6), taste[2]);
            due("the plot", x.told(0, 4), taste[2] > 0 ? 0 : Check.NONE);
            due("the year", x.told(0, 7), taste[2] > 0 ? 0 : Check.NONE);
        }
    }

    /** The greatest value is asked first, of several the least number; the greatest bid holds, of several the least seeker. */
    private static void settling() {
        GrownTown x = board(4, 1);
        int[] heights = {1, 3, 3, 2};
        for (int p = 0; p < 4; p++) x.height(p, heights[p]);
        x.seeker(1, 999, 1, 0);
        due("the least of the greatest", x.would(0), 1);
        x.seeker(2, 999, 1, 0);
        due("equal bids: the least seeker", x.would(0), 1);
        due("equal bids: the other goes on", x.would(1), 2);
        x.seeker(3, 999, 2, 0);
        due("a greater bid", x.would(2), 1);
        due("the one let go bids as much as the one at its next plot", x.would(0), 2);
        due("who is let go there, too", x.would(1), 3);
        x.seeker(3, 13, 9, 0);
        due("a purse of 13: less than at plot 1, as much as at plot 2, more than at plot 3", x.would(3), 3);
        due("the one let go there goes on", x.would(0) * 100 + x.would(1) * 10 + x.would(2), 201);
        x.seeker(1, 999, -9, 0);
        due("the only value above 0 is at plot 0: a bid of 1", x.would(4), Check.NONE);
        due("year()", x.year(), 4);
        int[] bids = {13, 11, 16, 13, 0};
        for (int s = 0; s < 5; s++) due("the bid of " + s, x.told(s, 6), bids[s]);
    }

    /** Homes of plots 0 to 2, works of plot 1 alone; what seekers tell, and who gets what. */
    private static void settles(int[][] seekers, int[] plots, int[] bids) {
        GrownTown x = board(4, 1);
        Check.laws(x, "zone home 0 0 2 0;zone work 1 0 1 0;zone shop 3 0 3 0;");
        for (int p = 0; p < 3; p++) x.height(p, 3 - p);
        for (int[] s : seekers) x.seeker(s[0], s[1], s[2], 0);
        for (int s = 0; s < seekers.length; s++) due("would of " + s, x.would(s), plots[s]);
        x.year();
        for (int s = 0; s < seekers.length; s++) {
            due("the plot of " + s, x.told(s, 4), plots[s]);
            due("the bid of " + s, x.told(s, 6), bids[s]);
        }
    }

    /** Until none asks: a round in which all who ask are let go is not the last one. */
    private static void untilNoneAsks() {
        settles(new int[][] {{2, 999, 0}, {1, 999, 1}, {1, 5, 1}}, new int[] {1, 0, 2}, new int[] {10, 13, 5});
        settles(new int[][] {{1, 5, 1}, {1, 999, 1}, {2, 999, 0}}, new int[] {2, 0, 1}, new int[] {5, 13, 10});
        settles(new int[][] {{1, 5, 1}, {1, 6, 1}, {1, 7, 1}, {1, 8, 1}}, new int[] {Check.NONE, 2, 1, 0}, new int[] {0, 6, 7, 8});
        settles(new int[][] {{1, 8, 1}, {1, 7, 1}, {1, 6, 1}, {1, 5, 1}}, new int[] {0, 1, 2, Check.NONE}, new int[] {8, 7, 6, 0});
    }

    /** A lesser seeker that asks later takes a plot with an equal bid, not with a lesser one; a greater one does not. */
    private static void asksLater() {
        settles(new int[][] {{1, 12, 1}, {2, 999, 1}, {1, 999, 1}}, new int[] {1, Check.NONE, 0}, new int[] {12, 0, 13});
        settles(new int[][] {{1, 11, 1}, {2, 999, 1}, {1, 999, 1}}, new int[] {2, 1, 0}, new int[] {11, 12, 13});
        settles(new int[][] {{2, 12, 1}, {1, 12, 1}, {1, 999, 1}}, new int[] {1, 2, 0}, new int[] {12, 11, 13});
        settles(new int[][] {{2, 11, 1}, {1, 12, 1}, {1, 999, 1}}, new int[] {Check.NONE, 1, 0}, new int[] {0, 12, 13});
    }

    /** What a seeker came with is told, before it gets a plot, then, and when it has left. */
    private static void tells() {
        GrownTown x = board(3, 1);
        int[][] seekers = {{1, 999, -9, 0}, {2, 1, 9, 1}, {3, 500, 0, 24}, {1, 2, -1, 98}, {2, 3, 1, 99}};
        for (int[] s : seekers) x.seeker(s[0], s[1], s[2], s[3]);
        for (int year = 0; year < 4; year++) {
            for (int s = 0; s < seekers.length; s++) {
                for (int what = 0; what < 4; what++) due("told(" + s + ", " + what + ")", x.told(s, what), seekers[s][what]);
            }
            if (year == 2) x.use(0, 0);
            x.year();
        }
        due("one that left", x.told(0, 5), 1);
        due("one that did not", x.told(1, 5), 0);
    }

    /** Who is let go by all plots stays; who comes in a later year does not ask; who has one or left does not either. */
    private static void comings() {
        GrownTown x = board(2, 1);
        x.seeker(1, 5, 0, 1);
        x.seeker(1, 4, 0, 0);
        x.seeker(1, 3, 0, 2);
        x.seeker(1, 2, 0, 99);
        due("it comes in year 1", x.would(0), Check.STATE);
        due("it comes in year 0", x.would(1), 0);
        due("year 0", x.year(), 1);
        due("it comes now", x.would(0), 1);
        due("it has a plot", x.would(1), Check.STATE);
        due("year 1", x.year(), 1);
        due("its year", x.told(0, 7), 1);
        due("no plot is left", x.would(2), Check.NONE);
        due("year 2", x.year(), 0);
        x.use(0, 0);
        due("one that left does not ask", x.would(1), Check.STATE);
        due("one that waits since year 2", x.would(2), 0);
        due("year 3", x.year(), 1);
        due("its year", x.told(2, 7), 3);
        x.use(0, 0);
        while (x.count(4) < 24) x.year();
        due("one that comes in 99", x.would(3), Check.STATE);
        due("its plot", x.told(3, 4), Check.NONE);
        due("a plot is free", x.plot(0, 2), 0);
    }

    /** MAY and WORTH are as the year begins: who comes first does not change them for who comes later. */
    private static void asYearsBegin() {
        GrownTown x = board(3, 1);
        Check.laws(x, "cap home 1;wish home home 2 50;wish work home 2-50;");
        x.seeker(1, 999, 0, 0);
        x.seeker(1, 999, 0, 0);
        x.seeker(2, 999, 0, 0);
        due("all become owners", x.year(), 3);
        due("bids as the year begins", x.told(0, 6) + x.told(1, 6) + x.told(2, 6), 30);
        due("above the cap", x.count(21), 2);
        due("worths then", x.worth(0, 1), 60);
        due("worths then", x.worth(2, 2), -90);
    }

    // ---- years

    /** A home at 0 whose worth a shop at 1 makes what it is to be. */
    private static GrownTown home(int worth, String laws) {
        GrownTown x = board(3, 1);
        int points = worth - 10;
        Check.laws(x, "wish home work 1 " + points + ";zone work 1 0 2 0;" + laws);
        x.seeker(1, 999, 0, 0);
        x.year();
        x.use(1, 2);
        due("its worth", x.worth(0, 1), worth);
        return x;
    }

    private static void taxes() {
        int[][] dues = {{99, 1, 0}, {100, 1, 1}, {101, 1, 1}, {109, 1, 1}, {109, 100, 109}, {109, 0, 0}, {50, 2, 1}, {49, 2, 0}, {99, 99, 98},
            {1, 99, 0}, {1, 100, 1}, {0, 100, 0}, {-1, 100, 0}, {-1, 1, 0}, {-89, 100, 0}};
        for (int[] d : dues) {
            GrownTown x = home(d[0], "from 1 tax home " + d[1] + ";from 1 tax work 100;");
            due("no taxes yet", x.count(5), 0);
            x.year();
            due("a tax of " + d[1] + " on " + d[0], x.went(1, 2), d[2]);
            due("THE CHEST", x.count(5), d[2]);
        }
        GrownTown x = board(3, 1);
        Check.laws(x, "tax home 19;tax shop 15;");
        for (int s = 0; s < 3; s++) x.seeker(s == 2 ? 3 : 1, 9, 0, 0);
        x.year();
        due("each is divided down: 1.9, 1.9, 1.5", x.went(0, 2), 3);
        x.year();
        due("each year", x.went(1, 2), 3);
        due("THE CHEST keeps all", x.count(5), 6);
    }

    private static void leaving() {
        int[][] dues = {{99, 99, 0}, {98, 99, 1}, {100, 99, 0}, {0, 0, 0}, {-1, 0, 1}, {1, 0, 0}, {109, 999, 1}, {1, 1, 0}, {0, 1, 1}};
        for (int[] d : dues) {
            GrownTown x = home(d[0], "from 1 leave home " + d[1] + ";from 1 leave work 999;");
            x.year();
            due("leave " + d[1] + " with " + d[0], x.told(0, 5), d[2]);
            due("left", x.went(1, 1), d[2]);
            due("uses then", x.was(1, 0), d[2] == 1 ? 0 : 1);
            due("works without an owner stay", x.was(1, 1), 2);
            due("its plot", x.told(0, 4), d[2] == 1 ? Check.NONE : 0);
            due("the owner", x.plot(0, 3), d[2] == 1 ? Check.NONE : 0);
            due("its bid stays", x.told(0, 6), 10);
            due("plots with a use", x.went(1, 3), 2 - d[2]);
        }
        GrownTown x = board(2, 1);
        Check.laws(x, "wish home home 1 5;leave home 15;from 1 leave home 16;tax home 100;");
        x.seeker(1, 9, 0, 0);
        x.seeker(1, 9, 0, 0);
        due("two homes", x.year(), 2);
        due("15 is not below 15", x.went(0, 1), 0);
        due("none of them", x.year(), 0);
        due("both leave, by the worth as it was with both", x.went(1, 1), 2);
        due("they are taxed before", x.went(1, 2), 30);
        due("none is remembered", x.went(1, 3), 0);
        GrownTown y = board(1, 1);
        Check.laws(y, "leave shop 11;tax shop 50;");
        y.seeker(3, 9, 0, 0);
        due("it becomes an owner", y.year(), 1);
        due("and leaves in the same year", y.told(0, 5), 1);
        due("with what it bid", y.told(0, 6), 9);
        due("in its year", y.told(0, 7), 0);
        due("and what it was taxed", y.went(0, 2), 5);
        due("none is left", y.was(0, 0), 0);
        due("it does not come again", y.year(), 0);
    }

    // ---- grown anew

    private static void grownAnew() {
        GrownTown x = board(2, 1);
        Check.laws(x, "cap home 0;");
        x.seeker(1, 9, 0, 0);
        x.year();
        due("without the only law", x.without(0), 0);
        due("without the one behind it", x.without(1), Check.NONE);
        x.use(0, 3);
        due("what is done in THE YEAR has not gone", x.without(1), Check.NONE);
        due("nor does it count", x.withoutMore(0), 1);
        Check.laws(x, "cap work 0;cap home 0;");
        x.year();
        due("each laws() that told so many is without it", x.without(1), 1);
        due("without the first of each", x.withoutMore(0), 0);
        due("the home that came then is a shop", x.without(0), 0);
        GrownTown y = board(1, 1);
        y.use(0, 2);
        y.year();
        Check.laws(y, "cap home 0;");
        y.use(0, 0);
        y.seeker(1, 9, 0, 1);
        y.year();
        due("the first year that differs", y.without(0), 1);
        due("one more", y.withoutMore(0), 1);
        GrownTown z = board(1, 1);
        Check.laws(z, "cap home 0;");
        z.seeker(1, 9, 0, 0);
        z.year();
        z.ground(0, 1);
        z.year();
        z.ground(0, 0);
        z.height(0, 9);
        due("the ground is left out, a home stays", z.withoutMore(0), 1);
        due("it changes nothing", z.plot(0, 1) * 10 + z.count(4), 92);
    }

    /** All that is told of an act is done anew: heights, tastes, purses, years of coming, grounds, uses. */
    private static void actsAnew() {
        GrownTown x = board(4, 1);
        Check.laws(x, "from 9 cap home 0;");
        x.height(2, 5);
        x.height(1, 3);
        x.height(1, 4);
        x.seeker(1, 999, 1, 0);
        x.seeker(1, 11, 1, 2);
        x.seeker(2, 12, -2, 1);
        x.ground(0, 2);
        x.year();
        x.use(3, 3);
        x.height(1, 5);
        x.year();
        x.use(2, 0);
        x.ground(0, 0);
        x.year();
        x.year();
        due("plots then", x.was(3, 0) * 1000 + x.was(3, 1) * 100 + x.was(3, 2) * 10 + x.was(3, 3), 2103);
        for (int k = 0; k < 12; k++) {
            due("nothing comes of law " + k, x.without(k), Check.NONE);
            due("no more", x.withoutMore(k), 0);
        }
    }

    /** The first of the years behind which a plot has another use, be there more of them, or be as many used. */
    private static void firstYear() {
        for (int from = 0; from < 6; from++) {
            GrownTown x = board(2, 1);
            Check.laws(x, "from " + from + " cap home 0;zone home 0 0 0 0;from " + from + " cap work 0;");
            x.seeker(1, 9, 0, from);
            x.seeker(2, 8, 0, from);
            x.seeker(3, 7, 0, from);
            for (int year = 0; year < 7; year++) x.year();
            due("a shop beside, from " + from, x.was(6, 1) * 10 + x.was(6, 0), 30);
            due("without the cap of homes", x.without(0), from);
            due("one more", x.withoutMore(0), 1);
            due("without the zone", x.without(1), from);
            due("without the cap of works: a work in place of a shop", x.without(2), from);
            due("as many", x.withoutMore(2), 0);
            due("without more laws", x.without(3), Check.NONE);
        }
    }

    /** A ground that is left out is not put when its plot is free again; to put one leaves the height. */
    private static void groundsAnew() {
        GrownTown x = board(1, 1);
        Check.laws(x, "cap home 0;from 2 leave home 99;");
        x.seeker(1, 9, 0, 0);
        x.seeker(3, 9, 0, 3);
        x.year();
        x.ground(0, 1);
        for (int year = 1; year < 4; year++) x.year();
        due("a home in year 0", x.without(0), 0);
        due("land yet in year 3: a shop", x.withoutMore(0), 1);
        GrownTown y = board(2, 1);
        Check.laws(y, "tax home 10;");
        y.height(1, 5);
        y.ground(1, 2);
        y.ground(1, 0);
        y.seeker(1, 99, 1, 0);
        y.year();
        due("the higher plot", y.was(0, 1), 1);
        due("anew too", y.without(0), Check.NONE);
    }

    // ---- ways

    private static void steps() {
        for (int up = 0; up <= 9; up++) {
            GrownTown x = board(3, 1);
            x.height(1, up);
            due("up " + up, x.time(0, 1), 3 + up);
            due("down " + up, x.time(1, 0), 3 + up);
            x.ground(0, 2);
            due("from a road up " + up, x.time(0, 1), 3 + up);
            x.ground(1, 2);
            due("from road to road up " + up, x.time(0, 1), 1 + up);
            due("from road to road down " + up, x.time(1, 0), 1 + up);
            due("and on to land", x.time(0, 2), 4 + 2 * up);
            x.ground(1, 1);
            due("over water", x.time(0, 2), Check.NONE);
        }
    }

    /** Times are of the board as it is, however it became so. */
    private static void changes() {
        GrownTown x = board(2, 1);
        due("at first", x.time(0, 1), 3);
        x.ground(0, 2);
        x.height(1, 5);
        due("a ground and a height later", x.time(0, 1), 8);
        x.height(1, 0);
        x.ground(1, 2);
        due("a height and a ground later", x.time(0, 1), 1);
        x.trip(0, 1);
        due("a trip", x.trips(0, 0), 1);
        x.height(0, 9);
        x.ground(0, 0);
        due("the trip then", x.trips(0, 0), 12);
        x.board(2, 1);
        due("a board anew", x.time(0, 1), 3);
        x.board(1, 2);
        due("another board", x.time(0, 1), 3);
    }

    private static void rides() {
        GrownTown x = board(8, 1);
        int[] stops = {2, 7, 3, 6, 4, 5};
        x.tram(stops[0], stops[1]);
        for (int i = 2; i < 6; i++) x.stop(0, stops[i]);
        x.height(4, 9);
        for (int i = 0; i < 6; i++) {
            for (int j = 0; j < 6; j++) {
                int foot = i == j ? 0 : 3 * Math.abs(stops[i] - stops[j]);
                boolean over = Math.min(stops[i], stops[j]) < 4 && Math.max(stops[i], stops[j]) > 4;
                if (over) foot += 18;
                if (i != j && (stops[i] == 4 || stops[j] == 4)) foot += 9;
                int ride = 2 + Math.abs(i - j);
                due("from stop " + i + " to stop " + j, x.time(stops[i], stops[j]), Math.min(foot, i == j ? 0 : ride));
            }
        }
        GrownTown y = board(8, 1);
        y.tram(1, 4);
        y.tram(4, 7);
        due("to come on twice", y.time(1, 7), 6);
        y.stop(0, 7);
        due("to ride on", y.time(1, 7), 4);
        y.ground(4, 1);
        due("through a stop that is water", y.time(1, 7), 4);
        due("not from it", y.time(4, 7), Check.NONE);
        due("nor to it", y.time(1, 4), Check.NONE);
        due("from it to itself", y.time(4, 4), 0);
        due("its way", y.way(1, 7, 1) * 10 + y.way(1, 7, 2), 47);
        due("no longer", y.way(1, 7, 3), Check.NONE);
    }

    private static void way(GrownTown x, int time, int... plots) {
        int last = plots[plots.length - 1];
        due("time", x.time(plots[0], last), time);
        for (int i = 0; i < plots.length; i++) due("plot " + i + " of the way", x.way(plots[0], last, i), plots[i]);
        due("no more", x.way(plots[0], last, plots.length), Check.NONE);
    }

    /** The way is the one whose plots come first from its beginning on, not from its end; and not the shortest one. */
    private static void comesFirst() {
        GrownTown x = board(5, 3);
        x.ground(7, 1);
        x.height(11, 9);
        way(x, 24, 10, 5, 0, 1, 2, 3, 8, 13, 12);
        way(x, 24, 12, 11, 10);
        x.height(11, 8);
        way(x, 22, 10, 11, 12);
        GrownTown y = board(3, 3);
        way(y, 12, 0, 1, 2, 5, 8);
        way(y, 12, 8, 5, 2, 1, 0);
        way(y, 12, 6, 3, 0, 1, 2);
        way(y, 12, 2, 1, 0, 3, 6);
        way(y, 6, 4, 1, 0);
        way(y, 6, 4, 1, 2);
        way(y, 6, 4, 3, 6);
        way(y, 6, 4, 5, 8);
    }

    /** Ways by trams there and back; what comes first of those that take the same; who is aboard and who is not. */
    private static void waysByTram() {
        GrownTown x = board(8, 1);
        x.tram(0, 3);
        x.stop(0, 6);
        x.stop(0, 7);
        way(x, 5, 0, 3, 6, 7);
        way(x, 5, 7, 6, 3, 0);
        way(x, 4, 7, 6, 3);
        way(x, 7, 1, 0, 3, 6);
        way(x, 7, 6, 3, 0, 1);
        GrownTown y = board(8, 1);
        y.tram(3, 0);
        for (int p : new int[] {1, 2, 5}) y.stop(0, p);
        way(y, 6, 3, 0, 1, 2, 5);
        way(y, 6, 5, 2, 1, 0, 3);
        y.board(8, 1);
        y.tram(3, 7);
        for (int p : new int[] {6, 7, 5}) y.stop(0, p);
        way(y, 6, 3, 4, 5);
        way(y, 6, 5, 4, 3);
        GrownTown z = board(8, 3);
        z.tram(23, 2);
        for (int p : new int[] {20, 12, 18, 0}) z.stop(0, p);
        way(z, 7, 23, 2, 20, 12, 18, 0);
        way(z, 7, 0, 18, 12, 20, 2, 23);
        z.board(8, 1);
        z.tram(3, 0);
        z.stop(0, 4);
        way(z, 3, 3, 4);
        z.board(8, 1);
        z.tram(0, 1);
        for (int p : new int[] {2, 3, 5}) z.stop(0, p);
        way(z, 6, 7, 6, 5);
        z.board(8, 1);
        for (int t = 0; t < 4; t++) z.tram(t, t + 4);
        way(z, 3, 3, 7);
        way(z, 3, 7, 3);
        way(z, 6, 2, 3, 7);
    }

    /** Trams that go together for a while; one who is aboard and one who is on foot at the same plot go on in other ways. */
    private static void aboardOrOnFoot() {
        int[][] together = {{0, 13, 6, 11}, {0, 13, 7, 11}};
        for (int first = 0; first < 2; first++) {
            GrownTown x = board(8, 2);
            GrownTown back = board(8, 2);
            for (int t = 0; t < 2; t++) {
                int[] stops = together[(first + t) % 2];
                x.tram(stops[0], stops[1]);
                back.tram(stops[3], stops[2]);
                for (int i = 2; i < 4; i++) {
                    x.stop(t, stops[i]);
                    back.stop(t, stops[3 - i]);
                }
            }
            way(x, 5, 0, 13, 6, 11);
            way(back, 5, 0, 13, 6, 11);
        }
        GrownTown y = board(8, 2);
        for (int road : new int[] {2, 3, 4, 5}) y.ground(road, 2);
        y.height(9, 9);
        y.tram(6, 1);
        y.stop(0, 7);
        y.stop(0, 3);
        way(y, 4, 1, 2, 3);
        way(y, 5, 6, 1, 7, 3);
        GrownTown z = board(8, 2);
        z.tram(0, 13);
        z.stop(0, 7);
        z.stop(0, 11);
        z.tram(13, 6);
        z.stop(1, 11);
        way(z, 5, 0, 13, 7, 11);
        way(z, 4, 13, 6, 11);
        y.tram(15, 14);
        for (int p : new int[] {13, 12, 3}) y.stop(1, p);
        way(y, 5, 6, 1, 7, 3);
        y.tram(9, 1);
        y.stop(2, 7);
        y.stop(2, 3);
        way(y, 5, 9, 1, 7, 3);
    }

    /** A step is crowded by 2 for each other trip, either way; a trip goes otherwise for less alone. */
    private static void crowds() {
        for (int n = 1; n <= 8; n++) {
            GrownTown x = board(2, 1);
            for (int t = 0; t < n; t++) x.trip(t % 2, 1 - t % 2);
            due("none can go otherwise", x.balance(), 1);
            for (int t = 0; t < n; t++) {
                due("it takes", x.trips(t, 0), 3 + 2 * (n - 1));
                due("alone", x.trips(t, 2), 3);
                due("both ends", x.trips(t, 1), 2);
                due("from", x.trips(t, 10), t % 2);
                due("to", x.trips(t, 11), 1 - t % 2);
                due("beyond", x.trips(t, 12), Check.BAD);
            }
        }
        for (int up = 0; up < 4; up++) {
            GrownTown x = board(2, 2);
            x.height(2, up);
            x.trip(0, 3);
            x.trip(0, 3);
            boolean less = 6 + 2 * up < 10;
            due("otherwise by " + (6 + 2 * up) + " of 10", x.balance(), less ? 2 : 1);
            due("the first goes so", x.trips(0, 11), less ? 2 : 1);
            due("it takes", x.trips(0, 0), less ? 6 + 2 * up : 10);
            due("the second stays", x.trips(1, 11), 1);
            due("it takes", x.trips(1, 0), less ? 6 : 10);
        }
    }

    // ---- plans, sheets

    private static void chosen(GrownTown x, int budget, int set, int cost, int sum) {
        due("the set", x.chosen(budget, 0), set);
        due("the cost", x.chosen(budget, 1), cost);
        due("the sum", x.chosen(budget, 2), sum);
    }

    /** No plot twice, though a road and a home on one plot would be worth more. */
    private static void noPlotTwice() {
        GrownTown x = board(3, 1);
        Check.laws(x, "wish home road 1 5;wish home work 2 7;");
        x.use(0, 1);
        x.plan(1, 0, 1);
        chosen(x, 999, 1, 1, 15);
        x.plan(1, 1, 1);
        chosen(x, 999, 2, 1, 20);
        x.plan(2, 2, 3);
        chosen(x, 999, 6, 4, 44);
        chosen(x, 3, 4, 3, 27);
        x.plan(1, 0, 2);
        x.plan(2, 2, 2);
        chosen(x, 999, 18, 3, 44);
        chosen(x, 2, 16, 2, 27);
        chosen(x, 1, 2, 1, 20);
        chosen(x, 0, 0, 0, 10);
        due("as it is", x.chosen(0, 3), 10);
    }

    /** The greatest sum, then the least cost, then the least sum of 2 to the number of each. */
    private static void whatIsChosen() {
        GrownTown x = board(4, 1);
        x.plan(0, 1, 5);
        x.plan(1, 1, 5);
        x.plan(2, 2, 5);
        x.plan(3, 0, 1);
        chosen(x, 4, 0, 0, 0);
        chosen(x, 5, 1, 5, 10);
        chosen(x, 9, 1, 5, 10);
        chosen(x, 10, 3, 10, 20);
        x.plan(3, 3, 4);
        chosen(x, 4, 16, 4, 10);
        chosen(x, 5, 16, 4, 10);
        chosen(x, 9, 17, 9, 20);
        chosen(x, 14, 19, 14, 30);
        chosen(x, 19, 23, 19, 40);
        due("it changes nothing", x.count(1) + x.count(6), 0);
    }

    /** Each plot becomes what its own two cells say, and no act is more than needed. */
    private static void drawsAll() {
        GrownTown x = board(3, 2);
        int[] cells = {7, 1, 9, 2, 8, 0, 7, 1, 0, 2, 5, 0, 4, 9};
        x.sheet(2, 1, 14);
        for (int i = 0; i < 14; i++) x.lay(2, i, cells[i]);
        x.use(5, 1);
        x.height(5, 4);
        due("draw", x.draw(2, 1, 1), 5);
        for (int p = 0; p < 6; p++) {
            due("ground", x.plot(p, 0), cells[1 + 2 * p]);
            due("height", x.plot(p, 1), cells[2 + 2 * p]);
        }
        due("acts", x.count(6), 2 + 4 + 4);
        due("draw again", x.draw(2, 1, 1), 0);
        for (int used = 0; used < 6; used++) {
            for (int other = 0; other < 6; other++) {
                GrownTown y = board(3, 2);
                y.use(used, 1);
                y.sheet(0, 0, 12);
                y.lay(0, 2 * other, 1);
                due("draw with use", y.draw(0, 0, 0), used == other ? Check.STATE : 1);
                y.lay(0, 2 * other, 0);
                y.lay(0, 2 * other + 1, 3);
                due("a height may be drawn", y.draw(0, 0, 0), 1);
                due("it is", y.plot(other, 1), 3);
            }
        }
    }

    public static void main(String[] args) {
        holds();
        holdTogether();
        greatestFrom();
        howFar();
        worth();
        zones();
        caps();
        eachForItself();
        bids();
        settling();
        untilNoneAsks();
        asksLater();
        tells();
        comings();
        asYearsBegin();
        taxes();
        leaving();
        grownAnew();
        actsAnew();
        firstYear();
        groundsAnew();
        steps();
        changes();
        rides();
        comesFirst();
        waysByTram();
        aboardOrOnFoot();
        crowds();
        noPlotTwice();
        whatIsChosen();
        drawsAll();
        Check.finish("TermsTest");
    }
}
