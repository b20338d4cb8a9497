import java.util.function.ToIntFunction;

/** Nothing there yet; a limit reached, and then one more; and that a board begins all anew. */
public final class LimitsTest {
    private static void due(String call, long got, long want) {
        Check.due(call, got, want);
    }

    private static void nothingYet(GrownTown x) {
        for (int what = 0; what < 4; what++) {
            due("no law", x.law(0, what), Check.BAD);
            due("no year", x.went(0, what), Check.BAD);
            due("no plan is chosen", x.chosen(999, what), 0);
        }
        for (int what = 0; what < 8; what++) due("no seeker", x.told(0, what), -100);
        for (int what = 0; what < 12; what++) due("no trip", x.trips(0, what), Check.BAD);
        for (int k = 0; k < 12; k++) {
            due("no law to leave out", x.without(k), Check.NONE);
            due("no years", x.withoutMore(k), 0);
        }
        due("no seeker would", x.would(0), Check.BAD);
        due("no year was", x.was(0, 0), Check.BAD);
        due("no year to note", x.note(0, 0, 0), Check.BAD);
        due("no year is known", x.known(0, 0, 0), Check.BAD);
        due("no year is known later", x.known(99, 0, 0), Check.BAD);
        due("no tram", x.stop(0, 0), Check.BAD);
        due("no trips", x.balance(), 1);
        due("no plan", x.build(0), Check.BAD);
        due("no law adds", x.cause(0, 1, 0), Check.BAD_WORTH);
        int[] counts = {9, 0, 0, 0, 0, 0, 0, 0, 0, 0, 0};
        for (int what = 0; what < counts.length; what++) due("count(" + what + ")", x.count(what), counts[what]);
        due("count(20)", x.count(20), 9);
        for (int p = 0; p < 9; p++) {
            for (int what = 0; what < 4; what++) due("plot", x.plot(p, what), what == 3 ? Check.NONE : 0);
            for (int u = 1; u < 4; u++) due("worth and may", x.worth(p, u) * 10 + x.may(p, u), 101);
        }
    }

    private static void atFirst() {
        GrownTown x = new GrownTown();
        due("a 4 by 4 board", x.time(0, 15) * 100 + x.count(0), 1816);
        due("no plot 16", x.plot(16, 0), Check.BAD);
        due("fault()", x.fault(), 0);
        due("end(0)", x.end(0), 0);
        for (int k = 0; k < 4; k++) {
            due("nothing to lay in", x.lay(k, 0, 0), -11);
            for (int lane = 0; lane < 3; lane++) due("nothing to draw of", x.draw(k, lane, 0), -11);
        }
        due("no cells", x.count(12), Check.NONE);
        due("no laws are told", x.laws(), 0);
        x.board(3, 3);
        nothingYet(x);
    }

    /** What comes when all has begun anew has nothing of what was there. */
    private static void goOn(GrownTown x) {
        x.seeker(1, 9, 1, 1);
        Towns.feed(x, "cap home 1;tax work 50;wish work home 2 5;zone shop 0 0 0 0;");
        x.laws();
        x.seeker(2, 9, 1, 0);
        x.seeker(3, 9, 1, 0);
        x.year();
        x.year();
        x.year();
        x.note(2, 0, 3);
        x.tram(0, 1);
        x.trip(0, 1);
        x.plan(0, 3, 9);
    }

    /** Of a full town and of a new one with its tape and its sheets all views are the same, when a board begins. */
    private static void boardBegins() {
        int[][] sizes = {{3, 3}, {1, 1}, {8, 8}, {4, 2}};
        for (int[] size : sizes) {
            for (int view = 0; view < Towns.VIEWS; view++) {
                GrownTown full = Towns.full();
                due("board", full.board(size[0], size[1]), 1);
                GrownTown begun = new GrownTown();
                begun.board(size[0], size[1]);
                for (int k = 0; k < 4; k++) begun.sheet(k, k % 3, 128);
                begun.lay(0, 1, 9);
                for (int i = 0; i < 40; i++) begun.feed(0x2020202020202020L);
                due("the tape", full.count(11), 320);
                for (int what = 0; what < 24; what++) due("count(" + what + ")", full.count(what), begun.count(what));
                full.end(0);
                begun.end(0);
                goOn(full);
                goOn(begun);
                boolean same = Towns.view(view, full).equals(Towns.view(view, begun));
                due("a board begins all anew, as view " + view + " shows later", same ? 1 : 0, 1);
            }
        }
        GrownTown x = Towns.full();
        x.board(3, 3);
        nothingYet(x);
        GrownTown y = Towns.rich();
        y.board(4, 3);
        due("the fault stays", y.fault(), 1);
        due("the tape stays", y.count(11), 13);
        Towns.feed(y, "sh home shop 1 1;");
        due("its bytes stay", y.laws(), 2);
        due("the sheet stays", y.count(12), 30);
        due("its cells stay", y.draw(0, 0, 0), 12);
    }

    /** Seekers of a lesser board ask none of the plots that a greater one had. */
    private static void lesserBoard() {
        GrownTown x = new GrownTown();
        x.board(8, 8);
        for (int p = 0; p < 10; p++) x.height(p + 50, 9);
        for (int u = 1; u < 4; u++) x.seeker(u, 9, 9, 0);
        due("three owners", x.year(), 3);
        x.board(2, 1);
        for (int s = 0; s < 4; s++) x.seeker(1 + s % 3, 9, 9, 0);
        due("would of the third", x.would(2), Check.NONE);
        due("two owners", x.year(), 2);
        due("the third", x.told(2, 4), Check.NONE);
        due("the second", x.told(1, 4), 1);
    }

    /** A row anew is all 0. */
    private static void rowsAnew() {
        for (int lane = 0; lane < 3; lane++) {
            GrownTown x = new GrownTown();
            x.board(1, 1);
            for (int k = 0; k < 4; k++) {
                x.sheet(k, lane, 128);
                for (int i = 0; i < 4; i++) x.lay(k, i * 42, 1);
                due("sheet", x.sheet(k, 2 - lane, 128), 1);
                for (int i = 0; i < 4; i++) due("draw of a row anew", x.draw(k, 2 - lane, Math.min(i * 42, 126)), 0);
                due("draw of the other lane", x.draw(k, lane, 0), lane == 1 ? 0 : -13);
            }
        }
    }

    /** Boards of all sizes from 1 to 8: how many plots, the last one and the first that is not, and where they lie. */
    private static void sizes() {
        GrownTown x = new GrownTown();
        for (int w = 1; w <= 8; w++) {
            for (int h = 1; h <= 8; h++) {
                if ((w * 8 + h) % 6 == 0) x = new GrownTown();
                int last = w * h - 1;
                due("board", x.board(w, h), 1);
                due("plots", x.count(0), w * h);
                due("the last plot", x.plot(last, 0), 0);
                due("none behind it", x.plot(last + 1, 0), Check.BAD);
                due("from corner to corner", x.time(0, last), 3 * (w - 1 + h - 1));
                due("from above to the right", x.time(0, w - 1), 3 * (w - 1));
                due("from above to the left below", x.time(0, w * (h - 1)), 3 * (h - 1));
                due("a zone of the last plot", zoneOf(x, w - 1, h - 1, last), 1);
                due("a use is seen from corner to corner", x.use(0, 2), 0);
                int far = w - 1 + h - 1;
                if (far > 0) Check.laws(x, "wish home work " + far + " 1;");
                if (far > 0) due("as far", x.worth(last, 1), 11);
                if (far > 1) Check.laws(x, "wish home work " + (far - 1) + " 1;");
                if (far > 1) due("not so far", x.worth(last, 1), 10);
            }
        }
    }

    /** Whether a zone of one plot keeps shops from that plot alone. */
    private static int zoneOf(GrownTown x, int px, int py, int p) {
        Check.laws(x, "zone home " + px + " " + py + " " + px + " " + py + ";");
        int kept = 0;
        for (int q = 0; q < x.count(0); q++) {
            if (x.may(q, 3) == 0) kept += q == p ? 1 : 100;
        }
        return kept;
    }

    private static void tape() {
        for (int length = 0; length <= 320; length++) {
            GrownTown x = new GrownTown();
            for (int i = 0; i * 8 < length; i++) x.feed(0x2020202020202020L);
            int had = (length + 7) / 8 * 8;
            due("end(" + length + ")", x.end(length), had);
            due("bytes", x.count(11), length);
            due("feed behind " + length, x.feed(0L), length > 312 ? Check.FULL : length + 8);
            due("bytes then", x.count(11), length > 312 ? length : length + 8);
            due("none more than there are", x.end(x.count(11) + 1), Check.BAD);
        }
    }

    /** Each act is done with 59 acts, and is FULL with 60. */
    private static void acts() {
        act("ground", x -> x.ground(0, 0));
        act("height", x -> x.height(0, 0));
        act("use", x -> x.use(0, 0));
        act("seeker", x -> x.seeker(1, 1, 1, 0));
        act("laws", GrownTown::laws);
        act("a road is built", x -> x.build(0));
        act("a home is built", x -> x.build(1));
        act("a ground is drawn", x -> x.draw(0, 0, 0));
        act("a height is drawn", x -> x.draw(0, 0, 2));
    }

    private static GrownTown withActs(int acts) {
        GrownTown x = new GrownTown();
        x.board(2, 1);
        for (int i = 0; i < acts; i++) x.height(0, 0);
        x.plan(0, 0, 1);
        x.plan(0, 1, 1);
        x.sheet(0, 0, 6);
        x.lay(0, 0, 1);
        x.lay(0, 5, 1);
        return x;
    }

    private static void act(String name, ToIntFunction<GrownTown> does) {
        GrownTown x = withActs(59);
        due(name + ": with 59 acts", does.applyAsInt(x) >= 0 ? 1 : 0, 1);
        due(name + ": 60 acts", x.count(6), 60);
        due("an act more", x.height(0, 0), Check.FULL);
        Check.refused(name + ": with 60 acts", () -> withActs(60), does, Check.FULL);
    }

    /** The 24th year goes, the 25th does not; all 24 are remembered. */
    private static void years() {
        GrownTown x = new GrownTown();
        x.board(2, 1);
        Check.laws(x, "from 23 tax home 100;from 24 tax home 1;from 25 tax home 2;");
        x.seeker(1, 9, 0, 23);
        x.seeker(2, 9, 0, 24);
        for (int year = 0; year < 24; year++) {
            due("THE YEAR", x.count(4), year);
            due("year " + year, x.year(), year == 23 ? 1 : 0);
        }
        due("THE YEAR", x.count(4), 24);
        due("the 25th year", x.year(), Check.FULL);
        due("THE YEAR stays", x.count(4), 24);
        due("was in the last year", x.was(23, 0), 1);
        due("was in none", x.was(24, 0), Check.BAD);
        due("taxes of the last year", x.went(23, 2), 10);
        due("none of the next", x.went(24, 2), Check.BAD);
        due("known of the last year", x.known(23, 23, 0), 1);
        due("not of the next", x.known(24, 24, 0), Check.BAD);
        due("a note about the last year", x.note(23, 0, 2), 0);
        due("known in the 24th", x.known(24, 23, 0), 2);
        due("not in the 23rd", x.known(23, 23, 0), 1);
        due("none about the next", x.note(24, 0, 2), Check.BAD);
        due("tax from 23", x.law(0, 3), 0);
        due("tax from 24", x.law(1, 3), 1);
        due("tax from 25", x.law(2, 3), 0);
        due("one comes in the 24th", x.would(1), 1);
        due("one can come then", x.seeker(2, 9, 0, 24), 2);
        due("none sooner", x.seeker(2, 9, 0, 23), Check.BAD);
        due("without the tax nothing differs", x.without(0), Check.NONE);
    }

    private static void seekers() {
        GrownTown x = new GrownTown();
        for (int s = 0; s < 20; s++) due("seeker " + s, x.seeker(1 + s % 3, 1 + s, 0, 0), s);
        due("the 21st", x.seeker(1, 1, 0, 0), Check.FULL);
        due("count(3)", x.count(3), 20);
        due("told(19, 1)", x.told(19, 1), 20);
        due("told(20, 1)", x.told(20, 1), -100);
        due("acts", x.count(6), 20);
        due("16 plots are settled", x.year(), 16);
        due("the least purses have none", x.told(0, 4) + x.told(3, 4), -8);
    }

    private static void waysAndTrips() {
        GrownTown x = new GrownTown();
        for (int t = 0; t < 4; t++) {
            due("tram " + t, x.tram(t, 15), t);
            for (int n = 3; n <= 6; n++) due("stop " + n, x.stop(t, n), n);
            due("the seventh stop", x.stop(t, 9), Check.FULL);
        }
        due("the fifth tram", x.tram(0, 15), Check.FULL);
        due("none such", x.stop(4, 9), Check.BAD);
        due("count(7)", x.count(7), 4);
        due("to the last stop", x.time(15, 6), 2 + 4);
        for (int t = 0; t < 8; t++) due("trip " + t, x.trip(t, 15), t);
        due("the ninth trip", x.trip(0, 15), Check.FULL);
        due("count(8)", x.count(8), 8);
        due("the last trip", x.trips(7, 10), 7);
        due("none behind", x.trips(8, 10), Check.BAD);
        GrownTown y = new GrownTown();
        y.board(8, 8);
        for (int t = 0; t < 4; t++) {
            y.tram(16 * t, 16 * t + 5);
            for (int i = 2; i < 6; i++) y.stop(t, 16 * t + (i % 2 == 0 ? 2 : 7) + i / 4);
        }
        due("from end to end", y.time(0, 8), 3);
        due("along a tram", y.time(16, 16 + 7), 2 + 3);
        due("no tram goes on as another one", y.time(8, 16), 3);
        due("from one to the beginning of the next on foot", y.time(7, 16), 2 + 2 + 3);
    }

    private static void plansAndNotes() {
        GrownTown x = new GrownTown();
        for (int k = 0; k < 6; k++) due("plan " + k, x.plan(k, 1, 99), k);
        due("the seventh plan", x.plan(7, 1, 1), Check.FULL);
        due("count(9)", x.count(9), 6);
        due("all are chosen", x.chosen(594, 0), 63);
        due("one less", x.chosen(593, 0), 31);
        due("a budget of 98", x.chosen(98, 0), 0);
        due("the last plan", x.build(5), 1);
        due("none behind", x.build(6), Check.BAD);
        x.year();
        for (int n = 0; n < 16; n++) due("note " + n, x.note(0, n, 3), n);
        due("the 17th note", x.note(0, 0, 2), Check.FULL);
        due("count(10)", x.count(10), 16);
        due("the last note", x.known(1, 0, 15), 3);
        due("not the 17th", x.known(1, 0, 0), 3);
    }

    /** Sheets of no cell, of one and of 128: the last cell, and the first that is not there. */
    private static void cells() {
        int[] sizes = {0, 1, 2, 127, 128};
        for (int k = 0; k < 4; k++) {
            for (int lane = 0; lane < 3; lane++) {
                for (int n : sizes) {
                    GrownTown x = new GrownTown();
                    x.board(1, 1);
                    due("sheet", x.sheet(k, lane, n), 1);
                    due("lay in the last cell", x.lay(k, n - 1, 5), n > 0 ? 1 : -12);
                    due("lay behind it", x.lay(k, n, 5), -12);
                    due("lay ahead of all", x.lay(k, -1, 5), -12);
                    due("draw of the last two", x.draw(k, lane, n - 2), n > 1 ? 1 : -12);
                    due("height", x.plot(0, 1), n > 1 ? 5 : 0);
                    due("draw of the last one", x.draw(k, lane, n - 1), n > 0 ? -100 : -12);
                    due("draw of none", x.draw(k, lane, n), -12);
                    due("cells of sheet 0", x.count(12), k == 0 ? n : Check.NONE);
                }
            }
        }
        GrownTown x = new GrownTown();
        x.board(8, 8);
        x.sheet(3, 0, 128);
        x.lay(3, 127, 9);
        due("all 128 cells", x.draw(3, 0, 0), 1);
        due("the last plot's height", x.plot(63, 1), 9);
        due("its height as a ground, the last but one", x.draw(3, 0, 1), -226);
        x.lay(3, 127, 2);
        due("one beyond", x.draw(3, 0, 1), -12);
        x.sheet(3, 0, 127);
        due("one too few", x.draw(3, 0, 0), -12);
    }

    /** The lowest bits of what is laid: 8, 16 or 32, the highest of them a sign. */
    private static void lanes() {
        int[] values = {9, 265, 65545, -247, -65527, 127, 128, 255, 256, 32767, 32768, 65535, 65536,
            Integer.MAX_VALUE, Integer.MIN_VALUE, -1, 10, 0};
        for (int lane = 0; lane < 3; lane++) {
            for (int v : values) {
                GrownTown x = new GrownTown();
                x.board(1, 1);
                x.height(0, 5);
                x.sheet(1, lane, 2);
                due("lay", x.lay(1, 1, v), 1);
                int cell = lane == 0 ? v << 24 >> 24 : lane == 1 ? v << 16 >> 16 : v;
                boolean such = cell >= 0 && cell <= 9;
                due("draw of " + v + " in lane " + lane, x.draw(1, lane, 0), such ? 1 : -101);
                due("height", x.plot(0, 1), such ? cell : 5);
            }
        }
    }

    public static void main(String[] args) {
        atFirst();
        boardBegins();
        lesserBoard();
        rowsAnew();
        sizes();
        tape();
        acts();
        years();
        seekers();
        waysAndTrips();
        plansAndNotes();
        cells();
        lanes();
        Check.finish("LimitsTest");
    }
}
