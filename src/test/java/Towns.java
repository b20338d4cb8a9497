import java.util.ArrayList;
import java.util.List;
import java.util.function.Supplier;

/** Towns that tests begin with, and all that can be seen of a town: views of less than 300 calls each. */
final class Towns {
    static final int VIEWS = 6;
    /** What the tests of bounds must know of a town. */
    record Begun(String name, Supplier<GrownTown> town, int plots, int laws, int seekers, int year, int tape) {
        int trams() {
            return name.equals("full") ? 4 : name.equals("rich") ? 2 : 0;
        }

        int trips() {
            return name.equals("full") ? 8 : name.equals("rich") ? 3 : 0;
        }

        int plans() {
            return name.equals("full") ? 6 : name.equals("rich") ? 3 : 0;
        }
    }

    static final Begun NEW = new Begun("new", GrownTown::new, 16, 0, 0, 0, 0);
    static final Begun RICH = new Begun("rich", Towns::rich, 12, 7, 6, 2, 13);
    static final Begun FULL = new Begun("full", Towns::full, 9, 12, 20, 24, 320);

    private Towns() {
    }

    static void feed(GrownTown x, String text) {
        int had = x.count(11);
        for (int i = 0; i < text.length(); i += 8) {
            long v = 0;
            for (int j = i; j < i + 8; j++) v = v << 8 | (j < text.length() ? text.charAt(j) : ' ');
            x.feed(v);
        }
        x.end(had + text.length());
    }

    /**
     * Some of everything, nothing full: 4 by 3 with water at 5, roads at 2, 6, 7, a shop at 3 without an owner,
     * THE YEAR 2, a fault, a tape that breaks off in a name.
     */
    static GrownTown rich() {
        GrownTown x = new GrownTown();
        x.board(4, 3);
        int[][] grounds = {{5, 1}, {6, 2}, {7, 2}, {2, 2}};
        for (int[] g : grounds) x.ground(g[0], g[1]);
        x.height(1, 3);
        x.height(10, 2);
        feed(x, "zone home 0 0 1 1;wish home road 2 3;wish work home 3-2;tax home 50;from 3 tax home 10;cap work 2;leave shop 5;");
        x.laws();
        x.seeker(1, 20, 0, 0);
        x.seeker(1, 15, 2, 0);
        x.seeker(2, 30, -1, 0);
        x.seeker(3, 9, 0, 1);
        x.seeker(2, 12, 1, 3);
        x.year();
        x.use(3, 3);
        x.year();
        x.seeker(3, 50, 1, 2);
        x.tram(0, 3);
        x.stop(0, 11);
        x.tram(8, 2);
        x.trip(0, 3);
        x.trip(8, 11);
        x.trip(3, 8);
        x.plan(11, 1, 5);
        x.plan(4, 0, 7);
        x.plan(11, 2, 3);
        x.note(0, 3, 1);
        x.note(1, 3, 2);
        x.sheet(0, 0, 30);
        for (int i = 0; i < 24; i++) x.lay(0, i, i % 2 == 0 ? x.plot(i / 2, 0) : i % 5);
        x.sheet(1, 1, 25);
        x.lay(1, 24, 3);
        x.sheet(2, 2, 0);
        feed(x, "tax home x");
        x.laws();
        feed(x, "tax home 7;wi");
        return x;
    }

    /**
     * All that has a limit is at it: 3 by 3 with water at 5, a road at 7, 12 laws, 20 seekers, 60 acts, 24 years,
     * 4 trams of 6 stops, 8 trips, 6 plans, 16 notes, 320 bytes on the tape, sheets of 128 cells. Plots 0, 6, 8 are free.
     */
    static GrownTown full() {
        GrownTown x = new GrownTown();
        x.board(3, 3);
        x.ground(5, 1);
        x.ground(7, 2);
        feed(x, "cap home 2;cap work 2;cap shop 1;tax home 9;tax work 7;wish home work 1 3;wish work shop 2 2;"
            + "from 3 leave shop 99;from 9 cap shop 0;from 30 tax shop 9;wish shop road 1 4;leave work 1;");
        x.laws();
        for (int s = 0; s < 20; s++) x.seeker(1 + s % 3, 5 + s, s % 4 - 2, s / 2);
        for (int year = 0; year < 24; year++) {
            if (year < 5) x.height(year, year + 1);
            x.year();
        }
        for (int i = 0; i < 31; i++) x.height(6, i % 10);
        x.use(0, 0);
        for (int t = 0; t < 4; t++) {
            x.tram(0, 6);
            for (int i = 0; i < 4; i++) x.stop(t, i % 2 == 0 ? t : 7);
        }
        for (int t = 0; t < 8; t++) x.trip(t % 3, 6 + t % 3);
        for (int k = 0; k < 6; k++) x.plan(6, k % 4, k + 1);
        for (int n = 0; n < 16; n++) x.note(n, n % 9, n % 4);
        for (int k = 0; k < 4; k++) x.sheet(k, k % 3, 128);
        x.lay(0, 1, 9);
        for (int i = 0; i < 40; i++) x.feed(0x2020202020202020L);
        return x;
    }

    private static void looks(GrownTown x, List<Integer> seen) {
        for (int p = 0; p < 16; p++) {
            for (int what = 0; what < 4; what++) seen.add(x.plot(p, what));
        }
        for (int p = 0; p < 12; p += 3) {
            for (int u = 1; u < 4; u++) {
                seen.add(x.worth(p, u));
                seen.add(x.may(p, u));
                for (int k = 0; k < 12; k += 2) seen.add(x.cause(p, u, k));
            }
        }
        for (int k = 0; k < 12; k++) {
            for (int what = 0; what < 4; what++) seen.add(x.law(k, what));
        }
        for (int what = 0; what < 24; what++) seen.add(x.count(what));
        seen.add(x.fault());
    }

    private static void people(GrownTown x, List<Integer> seen) {
        for (int s = 0; s < 20; s++) {
            for (int what = 0; what < 8; what++) seen.add(x.told(s, what));
            seen.add(x.would(s));
        }
        for (int year = 0; year < 24; year += 2) {
            for (int what = 0; what < 4; what++) seen.add(x.went(year, what));
        }
        for (int k = 0; k < 12; k++) {
            seen.add(x.without(k));
            seen.add(x.withoutMore(k));
        }
    }

    private static void past(GrownTown x, List<Integer> seen) {
        for (int year = 0; year < 24; year += 3) {
            for (int p = 0; p < 12; p++) {
                seen.add(x.was(year, p));
                seen.add(x.known(year + 1, year, p));
            }
        }
        for (int budget = 0; budget < 16; budget += 3) {
            for (int what = 0; what < 4; what++) seen.add(x.chosen(budget, what));
        }
    }

    private static void ways(GrownTown x, List<Integer> seen) {
        for (int p = 0; p < 12; p += 2) {
            for (int q = 0; q < 12; q += 3) {
                seen.add(x.time(p, q));
                for (int i = 0; i < 5; i++) seen.add(x.way(p, q, i));
            }
        }
        seen.add(x.balance());
        for (int t = 0; t < 8; t++) {
            for (int what = 0; what < 17; what++) seen.add(x.trips(t, what));
        }
    }

    /** What comes of the town when it goes on; the tape's bytes show in laws. */
    private static void goesOn(GrownTown x, List<Integer> seen) {
        feed(x, "sh home shop 2 9;");
        seen.add(x.laws());
        seen.add(x.fault());
        for (int k = 0; k < 3; k++) seen.add(x.law(k, 0));
        seen.add(x.tram(1, 4));
        seen.add(x.stop(0, 4));
        seen.add(x.trip(0, 1));
        seen.add(x.plan(0, 1, 4));
        for (int k = 0; k < 6; k++) seen.add(x.build(k));
        seen.add(x.note(0, 1, 3));
        seen.add(x.seeker(1, 9, 1, 24));
        for (int i = 0; i < 3; i++) {
            seen.add(x.height(0, i));
            seen.add(x.use(0, i));
            seen.add(x.ground(4, i));
            seen.add(x.year());
        }
        looks(x, seen);
        for (int k = 0; k < 12; k++) seen.add(x.without(k));
    }

    /** Two cells at once are read as ground and height of the only plot of a board. */
    private static void cells(GrownTown x, List<Integer> seen) {
        x.board(1, 1);
        for (int k = 0; k < 4; k++) {
            for (int lane = 0; lane < 3; lane++) seen.add(x.draw(k, lane, 0));
        }
        for (int f = 0; f < 29; f++) {
            seen.add(x.draw(0, 0, f));
            seen.add(x.plot(0, 0) * 10 + x.plot(0, 1));
        }
        for (int f = 21; f < 26; f++) {
            seen.add(x.draw(1, 1, f));
            seen.add(x.plot(0, 0) * 10 + x.plot(0, 1));
        }
    }

    static List<Integer> view(int number, GrownTown x) {
        List<Integer> seen = new ArrayList<>();
        switch (number) {
            case 0: looks(x, seen); break;
            case 1: people(x, seen); break;
            case 2: past(x, seen); break;
            case 3: ways(x, seen); break;
            case 4: goesOn(x, seen); break;
            default: cells(x, seen); break;
        }
        return seen;
    }
}
