import java.util.function.ToIntFunction;

/**
 * The order in which refusals come when more than one is due: BAD, STATE, FULL, NONE, or as the promise tells it; and
 * that what is refused changes nothing. The rich town and the full one are told in Towns.
 */
public final class OrderTest {
    private static final int BAD = Check.BAD, STATE = Check.STATE, FULL = Check.FULL, NONE = Check.NONE;

    private static void rich(String call, int want, ToIntFunction<GrownTown> does) {
        Check.refused("rich town: " + call, Towns::rich, does, want);
    }

    private static void full(String call, int want, ToIntFunction<GrownTown> does) {
        Check.refused("full town: " + call, Towns::full, does, want);
    }

    private static void ofGround() {
        rich("ground of a used plot", STATE, x -> x.ground(3, 2));
        rich("ground as it is of a used plot", STATE, x -> x.ground(3, 0));
        rich("no such ground, of a used plot", BAD, x -> x.ground(3, 3));
        full("no such ground, of a used plot, no act more", BAD, x -> x.ground(1, 3));
        full("ground of a used plot, no act more", STATE, x -> x.ground(1, 2));
        full("no act more: ground", FULL, x -> x.ground(0, 2));
        full("no act more: ground as it is", FULL, x -> x.ground(0, 0));
    }

    private static void ofHeight() {
        full("no such height, no act more", BAD, x -> x.height(0, 10));
        full("height of no such plot, no act more", BAD, x -> x.height(9, 0));
        full("no act more: height", FULL, x -> x.height(0, 9));
        full("no act more: height as it is", FULL, x -> x.height(0, 1));
    }

    private static void ofUse() {
        for (int u = 1; u < 4; u++) {
            int to = u;
            rich("use " + to + " of water", STATE, x -> x.use(5, to));
            rich("use " + to + " of a road", STATE, x -> x.use(6, to));
        }
        rich("no such use, of water", BAD, x -> x.use(5, 4));
        full("no such use, of water, no act more", BAD, x -> x.use(5, 4));
        full("use of water, no act more", STATE, x -> x.use(5, 1));
        full("use of a road, no act more", STATE, x -> x.use(7, 3));
        full("no act more: no use of water", FULL, x -> x.use(5, 0));
        full("no act more: use", FULL, x -> x.use(0, 1));
        full("no act more: the owner stays", FULL, x -> x.use(1, 2));
    }

    private static void ofTape() {
        full("a byte more than 320", FULL, x -> x.feed(0L));
        full("end beyond 320", BAD, x -> x.end(321));
        full("no act more: laws", FULL, GrownTown::laws);
        Check.refused("no act more: laws with a fault", OrderTest::fullAndFaulty, GrownTown::laws, FULL);
        GrownTown x = fullAndFaulty();
        x.laws();
        Check.due("fault() of the one before", x.fault(), 0);
        Check.due("the tape stays", x.count(11), 8);
    }

    private static GrownTown fullAndFaulty() {
        GrownTown x = Towns.full();
        x.end(0);
        Towns.feed(x, "tax what");
        return x;
    }

    /** A fault empties the tape, and changes nothing else but fault(): here it is the same as the one before. */
    private static void ofFaults() {
        String[] texts = {"what", "zone home 0 0 7 7;what", "tax home 1;cap home 1;from 2 what", "wish home shop 1 99;?"};
        for (String text : texts) {
            for (int view = 0; view < Towns.VIEWS; view++) {
                GrownTown x = Towns.rich();
                x.end(0);
                Towns.feed(x, text);
                Check.due("a fault of " + text, x.laws() <= -10 ? x.fault() : 0, 1);
                GrownTown twin = Towns.rich();
                twin.end(0);
                boolean same = Towns.view(view, x).equals(Towns.view(view, twin));
                Check.due("a fault changes nothing else, as view " + view + " shows", same ? 1 : 0, 1);
            }
        }
    }

    private static void ofSeekers() {
        full("no such use, no seeker more", BAD, x -> x.seeker(0, 1, 0, 24));
        full("a year that went, no seeker more", BAD, x -> x.seeker(1, 1, 0, 23));
        full("no seeker more", FULL, x -> x.seeker(1, 1, 0, 24));
        rich("would of one with a plot", STATE, x -> x.would(1));
        rich("would of one who left", STATE, x -> x.would(0));
        rich("would of one who comes later", STATE, x -> x.would(4));
        full("no such seeker", BAD, x -> x.would(20));
        full("would of one with a plot", STATE, x -> x.would(3));
        full("would of one who left", STATE, x -> x.would(0));
        full("the 25th year", FULL, GrownTown::year);
    }

    private static void ofYears() {
        rich("no such law, though nothing would differ", BAD, x -> x.without(12));
        rich("as many laws as there are: none differs", NONE, x -> x.without(7));
        rich("no such law: no more", -1000, x -> x.withoutMore(12));
        Check.refused("no such law ahead of no years", GrownTown::new, x -> x.without(12), BAD);
        Check.refused("no such law ahead of no years: 0", GrownTown::new, x -> x.withoutMore(-1), -1000);
        Check.refused("no years", GrownTown::new, x -> x.without(11), NONE);
    }

    private static void ofWays() {
        full("a tram of one stop, no tram more", BAD, x -> x.tram(0, 0));
        full("a tram from water, no tram more", BAD, x -> x.tram(5, 0));
        full("a tram to water, no tram more", BAD, x -> x.tram(0, 5));
        full("no tram more", FULL, x -> x.tram(0, 8));
        full("the stop that it has last, no stop more", BAD, x -> x.stop(0, 7));
        full("a stop on water, no stop more", BAD, x -> x.stop(0, 5));
        full("no such tram, no stop more", BAD, x -> x.stop(4, 1));
        full("no stop more", FULL, x -> x.stop(0, 1));
        full("no such plot, from water", BAD, x -> x.time(5, 9));
        full("no way from water", NONE, x -> x.time(5, 0));
        full("no way to water", NONE, x -> x.time(0, 5));
        full("no such plot of no way", BAD, x -> x.way(0, 5, -1));
        full("no way to water", NONE, x -> x.way(0, 5, 0));
        rich("not so long", NONE, x -> x.way(0, 3, 2));
    }

    private static void ofTrips() {
        rich("a trip of one plot", BAD, x -> x.trip(1, 1));
        rich("a trip of one plot of water", BAD, x -> x.trip(5, 5));
        rich("a trip from water", STATE, x -> x.trip(5, 1));
        rich("a trip to water", STATE, x -> x.trip(1, 5));
        full("a trip of one plot, no trip more", BAD, x -> x.trip(1, 1));
        full("a trip to water, no trip more", STATE, x -> x.trip(1, 5));
        full("no trip more", FULL, x -> x.trip(1, 2));
        rich("trips: i beyond", BAD, x -> x.trips(0, 14));
        Check.refused("no such trip", OrderTest::oneLeftOut, x -> x.trips(3, 0), BAD);
        Check.refused("no such number of one left out", OrderTest::oneLeftOut, x -> x.trips(0, 3), BAD);
        Check.refused("no such number of one left out", OrderTest::oneLeftOut, x -> x.trips(0, 9), BAD);
        Check.refused("one left out", OrderTest::oneLeftOut, x -> x.trips(0, 10), STATE);
        Check.refused("one left out, i beyond", OrderTest::oneLeftOut, x -> x.trips(0, Integer.MAX_VALUE), STATE);
        Check.refused("one that goes, i beyond", OrderTest::oneLeftOut, x -> x.trips(1, Integer.MAX_VALUE), BAD);
    }

    private static GrownTown oneLeftOut() {
        GrownTown x = Towns.rich();
        x.ground(0, 1);
        return x;
    }

    private static void ofPlans() {
        int[] noLandWithoutUse = {5, 6, 3, 8};
        for (int p : noLandWithoutUse) rich("a plan of plot " + p, BAD, x -> x.plan(p, 1, 1));
        full("a plan of water, no plan more", BAD, x -> x.plan(5, 1, 1));
        full("a plan of a used plot, no plan more", BAD, x -> x.plan(1, 1, 1));
        full("no plan more", FULL, x -> x.plan(0, 1, 1));
        full("no act more: a road", FULL, x -> x.build(0));
        full("no act more: a home", FULL, x -> x.build(1));
        Check.refused("what can't be, and no act more", OrderTest::fullAndBuilt, x -> x.build(2), STATE);
        Check.refused("no such plan, and no act more", OrderTest::fullAndBuilt, x -> x.build(3), BAD);
        rich("no such number, of a budget", -1000000, x -> x.chosen(999, 4));
        rich("no such budget, of what is", -1000000, x -> x.chosen(1000, 3));
    }

    private static GrownTown fullAndBuilt() {
        GrownTown x = Towns.rich();
        x.build(0);
        Check.fillActs(x);
        return x;
    }

    private static void ofNotes() {
        full("a note of a year that comes, no note more", BAD, x -> x.note(24, 0, 1));
        full("a note of no such use, no note more", BAD, x -> x.note(0, 0, 4));
        full("no note more", FULL, x -> x.note(0, 0, 1));
        full("known in no such year of a later one", BAD, x -> x.known(-1, 3, 0));
        full("known of no such plot of a later year", BAD, x -> x.known(2, 3, 9));
        full("known ahead of the year", STATE, x -> x.known(2, 3, 0));
        rich("known ahead of a year that is not remembered", BAD, x -> x.known(1, 2, 0));
    }

    private static void ofSheets() {
        rich("no such sheet, a size below 0", BAD, x -> x.sheet(4, 0, -1));
        rich("no such lane, a size below 0", BAD, x -> x.sheet(0, 3, -1));
        for (int k = 0; k < 4; k++) {
            int sheet = k;
            rich("a size below 0", -14, x -> x.sheet(sheet, 0, -1));
            rich("the least size", -14, x -> x.sheet(sheet, 2, Integer.MIN_VALUE));
            rich("a size above 128", BAD, x -> x.sheet(sheet, 1, 129));
        }
        rich("no such sheet, no such cell", BAD, x -> x.lay(4, -1, 0));
        rich("nothing, no such cell", -11, x -> x.lay(3, -1, 0));
        rich("nothing", -11, x -> x.lay(3, 0, 0));
        rich("no cells", -12, x -> x.lay(2, 0, 0));
        int[] noCells = {-1, 30, Integer.MIN_VALUE, Integer.MAX_VALUE};
        for (int i : noCells) rich("cell " + i, -12, x -> x.lay(0, i, 7));
    }

    private static void ofDrawing() {
        rich("no such sheet, no such lane", BAD, x -> x.draw(4, 3, -1));
        rich("no such sheet", BAD, x -> x.draw(-1, 0, 0));
        rich("no such lane of nothing", BAD, x -> x.draw(3, 3, 0));
        rich("nothing, of any lane, no such cell", -11, x -> x.draw(3, 1, -1));
        rich("another lane, no such cell", -13, x -> x.draw(0, 1, -1));
        rich("another lane, no cells", -13, x -> x.draw(2, 1, 0));
        rich("no cells", -12, x -> x.draw(2, 2, 0));
        int[] noCells = {-1, 29, 30, Integer.MIN_VALUE, Integer.MAX_VALUE};
        for (int f : noCells) rich("no such cells from " + f, -12, x -> x.draw(0, 0, f));
        rich("a height as a ground, none such", -102, x -> x.draw(0, 0, 7));
        rich("none such ahead of a cell that is not there", -122, x -> x.draw(1, 1, 2));
        Check.due("the last cells that are there", Towns.rich().draw(1, 1, 1), 7);
    }

    /** Of a 2 by 2 town with a used plot 3 and all but two of its acts; cells that change what they are told to. */
    private static GrownTown drawn(int acts, int... cells) {
        GrownTown x = new GrownTown();
        x.board(2, 2);
        x.use(3, 1);
        for (int i = 1; i < acts; i++) x.height(0, 0);
        x.sheet(0, 2, cells.length);
        for (int i = 0; i < cells.length; i++) x.lay(0, i, cells[i]);
        return x;
    }

    private static void drawn(String why, int want, int acts, int... cells) {
        Check.refused(why, () -> drawn(acts, cells), x -> x.draw(0, 2, 0), want);
    }

    private static void ofCells() {
        drawn("a cell that is not there comes behind one that is none such", -101, 60, 1, 10, 0, 0, 0, 0, 1);
        drawn("a cell that is not there comes ahead of STATE", -12, 60, 1, 0, 0, 0, 0, 0, 1);
        drawn("a cell that is none such comes ahead of STATE", -107, 60, 1, 0, 0, 0, 0, 0, 1, 10);
        drawn("a cell below 0", -106, 60, 1, 0, 0, 0, 0, 0, -1, 0);
        drawn("the first of two that are none such", -102, 60, 1, 0, 3, 10, 0, 0, 0, 0);
        drawn("the least int and the greatest", -100, 3, Integer.MIN_VALUE, Integer.MAX_VALUE, 0, 0, 0, 0, 0, 0);
        drawn("the greatest int", -101, 3, 0, Integer.MAX_VALUE, 0, 0, 0, 0, 0, 0);
        drawn("STATE comes ahead of FULL", STATE, 60, 1, 0, 0, 0, 0, 0, 1, 0);
        drawn("an act more than 60", FULL, 60, 1, 0, 0, 0, 0, 0, 0, 0);
        drawn("two acts more than 59", FULL, 59, 1, 1, 0, 0, 0, 0, 0, 0);
        drawn("a height each", FULL, 57, 0, 1, 0, 1, 0, 1, 0, 1);
        Check.due("as many acts as 60", drawn(56, 0, 1, 0, 1, 0, 1, 0, 1).draw(0, 2, 0), 4);
        Check.due("none more than 60", drawn(60, 0, 0, 0, 0, 0, 0, 0, 0).draw(0, 2, 0), 0);
    }

    /** A rich town in which one thing alone is full: what is refused then changes nothing. */
    private static void full(String call, ToIntFunction<GrownTown> fills, int times, ToIntFunction<GrownTown> does) {
        Check.refused("rich town, one thing full: " + call, () -> {
            GrownTown x = Towns.rich();
            for (int i = 0; i < times; i++) Check.due("before " + call, fills.applyAsInt(x) >= 0 ? 1 : 0, 1);
            return x;
        }, does, FULL);
    }

    private static GrownTown withStops(int t) {
        GrownTown x = Towns.rich();
        int[] stops = {8, 9, 10, 4};
        for (int i = 0; i < 3 + t; i++) Check.due("stop", x.stop(t, stops[i]), 4 - t + i);
        return x;
    }

    private static void ofOneThingFull() {
        full("seeker", x -> x.seeker(1, 5, 1, 3), 14, x -> x.seeker(2, 50, 3, 2));
        full("tram", x -> x.tram(0, 9), 2, x -> x.tram(4, 11));
        for (int t = 0; t < 2; t++) {
            int tram = t;
            Check.refused("rich town, one tram full: stop", () -> withStops(tram), x -> x.stop(tram, 11), FULL);
        }
        full("trip", x -> x.trip(9, 2), 5, x -> x.trip(1, 2));
        full("plan", x -> x.plan(0, 3, 1), 3, x -> x.plan(4, 1, 2));
        full("note", x -> x.note(0, 1, 2), 14, x -> x.note(0, 2, 3));
        full("year", GrownTown::year, 22, GrownTown::year);
        full("feed", x -> x.feed(0x2020202020202020L), 38, x -> x.feed(0x3b3b3b3b3b3b3b3bL));
        full("ground", x -> x.height(1, 3), 46, x -> x.ground(0, 2));
        full("height", x -> x.height(1, 3), 46, x -> x.height(0, 2));
        full("use", x -> x.height(1, 3), 46, x -> x.use(9, 2));
        full("seeker, an act", x -> x.height(1, 3), 46, x -> x.seeker(1, 5, 1, 3));
        full("laws", x -> x.height(1, 3), 46, GrownTown::laws);
        full("build", x -> x.height(1, 3), 46, x -> x.build(0));
        full("draw", x -> x.height(1, 3), 45, x -> x.draw(0, 0, 0));
    }

    public static void main(String[] args) {
        ofGround();
        ofHeight();
        ofUse();
        ofTape();
        ofFaults();
        ofSeekers();
        ofYears();
        ofWays();
        ofTrips();
        ofPlans();
        ofNotes();
        ofSheets();
        ofDrawing();
        ofCells();
        ofOneThingFull();
        Check.finish("OrderTest");
    }
}
