import java.util.Arrays;

/** A town grown: what each call does and answers is told in ../shared/DOC.md. */
public final class GrownTown {
    public static final int BAD = -1, STATE = -2, FULL = -3, NONE = -4, SPENT = -6;

    private static final int BAD_WORTH = -1000000, BAD_TOLD = -100, BAD_MORE = -1000;
    private static final int LAND = 0, WATER = 1, ROAD = 2;
    private static final int PLOTS = 64, SIDE = 8, FARTHEST = 14, USES = 3;
    private static final int HIGHEST = 9, YEARS = 24, LAST_YEAR = 99;

    private final Town town = new Town();
    /** A second town, in which the first one is grown anew, so that no call needs new rows. */
    private final Town anew = new Town();
    private final Acts acts = new Acts();
    private final LawText tape = new LawText();
    /** The laws as they are read, before they are the town's. */
    private final Laws read = new Laws();
    private final Ways ways = new Ways(town.board);
    private final Trips trips = new Trips(ways);
    private final Plans plans = new Plans();
    private final Notes notes = new Notes();
    private final Sheets sheets = new Sheets();

    public GrownTown() {
    }

    public int board(int w, int h) {
        if (!within(w, 1, SIDE) || !within(h, 1, SIDE)) return BAD;
        town.begin(w, h);
        acts.forget();
        ways.forgetTrams();
        trips.forget();
        plans.told = 0;
        notes.told = 0;
        return 1;
    }

    public int ground(int p, int g) {
        if (!town.board.has(p) || !within(g, LAND, ROAD)) return BAD;
        if (!town.canGround(p)) return STATE;
        if (acts.areFull()) return FULL;
        acts.keep(Acts.GROUND, town.year, p, g);
        return town.board.putGround(p, g);
    }

    public int height(int p, int v) {
        if (!town.board.has(p) || !within(v, 0, HIGHEST)) return BAD;
        if (acts.areFull()) return FULL;
        acts.keep(Acts.HEIGHT, town.year, p, v);
        return town.board.putHeight(p, v);
    }

    public int use(int p, int u) {
        if (!town.board.has(p) || !within(u, 0, USES)) return BAD;
        if (!town.canUse(p, u)) return STATE;
        if (acts.areFull()) return FULL;
        acts.keep(Acts.USE, town.year, p, u);
        return town.putUse(p, u);
    }

    public int plot(int p, int what) {
        if (!town.board.has(p)) return BAD;
        switch (what) {
            case 0: return town.board.groundOf(p);
            case 1: return town.board.heightOf(p);
            case 2: return town.board.useOf(p);
            case 3: return town.seekers.ownerOf(p);
            default: return BAD;
        }
    }

    // ---- laws

    public int feed(long v) {
        return tape.append(v) ? tape.length : FULL;
    }

    public int end(int n) {
        if (!within(n, 0, tape.length)) return BAD;
        int had = tape.length;
        tape.length = n;
        return had;
    }

    public int laws() {
        if (acts.areFull()) return FULL;
        boolean whole = tape.readInto(read);
        tape.length = 0;
        if (!whole) return -10 - tape.faultPlace;
        acts.keepLaws(town.year, read);
        town.laws.take(read, -1);
        return town.laws.told;
    }

    public int fault() {
        return tape.fault;
    }

    public int law(int k, int what) {
        if (!town.laws.has(k)) return BAD;
        switch (what) {
            case 0: return town.laws.at(k, Laws.ACT);
            case 1: return town.laws.at(k, Laws.FROM);
            case 2: return town.laws.at(k, Laws.USE);
            case 3: return town.laws.holds(k, town.year) ? 1 : 0;
            default: return BAD;
        }
    }

    public int worth(int p, int u) {
        if (!town.board.has(p) || !within(u, 1, USES)) return BAD_WORTH;
        return town.worthOf(p, u);
    }

    public int cause(int p, int u, int k) {
        if (!town.board.has(p) || !within(u, 1, USES) || !town.laws.has(k)) return BAD_WORTH;
        return town.adds(p, u, k);
    }

    public int may(int p, int u) {
        if (!town.board.has(p) || !within(u, 1, USES)) return BAD;
        return town.mayBecome(p, u) ? 1 : 0;
    }

    // ---- seekers, years

    public int seeker(int u, int purse, int taste, int year) {
        if (!within(u, 1, USES) || !within(purse, 1, 999) || !within(taste, -9, 9)) return BAD;
        if (!within(year, town.year, LAST_YEAR)) return BAD;
        if (town.seekers.areFull() || acts.areFull()) return FULL;
        acts.keepSeeker(town.year, u, purse, taste, year);
        return town.seekers.add(u, purse, taste, year);
    }

    public int told(int s, int what) {
        return town.seekers.has(s) ? town.seekers.tell(s, what) : BAD_TOLD;
    }

    public int would(int s) {
        if (!town.seekers.has(s)) return BAD;
        if (!town.seekers.waits(s, town.year)) return STATE;
        town.showPlots();
        town.seekers.settle(town.year, town.board.plots);
        return town.seekers.heldBy(s);
    }

    public int year() {
        return town.year >= YEARS ? FULL : town.grow();
    }

    public int was(int year, int p) {
        return town.remembers(year) && town.board.has(p) ? town.usedIn(year, p) : BAD;
    }

    public int went(int year, int what) {
        return town.remembers(year) && within(what, 0, Town.FIGURES - 1) ? town.figure(year, what) : BAD;
    }

    public int without(int k) {
        if (!within(k, 0, Laws.MOST - 1)) return BAD;
        growAnew(k);
        for (int y = 0; y < town.year; y++) {
            if (differs(y)) return y;
        }
        return NONE;
    }

    public int withoutMore(int k) {
        if (!within(k, 0, Laws.MOST - 1)) return BAD_MORE;
        if (town.year == 0) return 0;
        growAnew(k);
        int latest = town.year - 1;
        return anew.figure(latest, Town.USED) - town.figure(latest, Town.USED);
    }

    // ---- ways

    public int tram(int p, int q) {
        if (!canStop(p) || !canStop(q) || p == q) return BAD;
        return ways.trams >= Ways.TRAMS ? FULL : ways.addTram(p, q);
    }

    public int stop(int t, int p) {
        if (!within(t, 0, ways.trams - 1) || !canStop(p) || ways.lastStop(t) == p) return BAD;
        return ways.stopsOf(t) >= Ways.STOPS ? FULL : ways.addStop(t, p);
    }

    public int time(int p, int q) {
        if (!town.board.has(p) || !town.board.has(q)) return BAD;
        if (p == q) return 0;
        ways.measure(q, false);
        return ways.reaches(p) ? ways.timeFrom(p) : NONE;
    }

    public int way(int p, int q, int i) {
        if (!town.board.has(p) || !town.board.has(q) || i < 0) return BAD;
        if (p == q) return i == 0 ? p : NONE;
        ways.measure(q, false);
        ways.trace(p);
        return i < ways.length ? ways.plotAt(i) : NONE;
    }

    public int trip(int p, int q) {
        if (!town.board.has(p) || !town.board.has(q) || p == q) return BAD;
        ways.measure(q, true);
        if (!ways.reaches(p)) return STATE;
        return trips.told >= Trips.MOST ? FULL : trips.add(p, q);
    }

    public int balance() {
        trips.settle();
        return trips.spent ? SPENT : trips.rounds;
    }

    public int trips(int t, int what) {
        if (!within(t, 0, trips.told - 1) || what < 0 || within(what, 3, 9)) return BAD;
        trips.settle();
        if (trips.isOut(t)) return STATE;
        if (trips.spent) return SPENT;
        switch (what) {
            case 0: return trips.takes(t);
            case 1: return trips.goesThrough(t);
            case 2: return trips.takesAlone(t);
            default: return what - 10 < trips.goesThrough(t) ? trips.plotAt(t, what - 10) : BAD;
        }
    }

    // ---- plans

    public int plan(int p, int kind, int cost) {
        if (!town.board.isFree(p) || !within(kind, 0, USES) || !within(cost, 1, 99)) return BAD;
        return plans.told >= Plans.MOST ? FULL : plans.add(p, kind, cost);
    }

    public int chosen(int budget, int what) {
        if (!within(budget, 0, 999) || !within(what, 0, 3)) return BAD_WORTH;
        if (what == 3) return town.sumOfWorths();
        plans.choose(town, budget);
        switch (what) {
            case 0: return plans.bestSet;
            case 1: return plans.bestCost;
            default: return plans.bestSum;
        }
    }

    public int build(int k) {
        if (!within(k, 0, plans.told - 1)) return BAD;
        int p = plans.plotOf(k);
        int kind = plans.kindOf(k);
        if (!town.board.isFree(p)) return STATE;
        if (acts.areFull()) return FULL;
        if (kind == 0) {
            ground(p, ROAD);
        } else {
            use(p, kind);
        }
        return 1;
    }

    // ---- notes

    public int note(int year, int p, int u) {
        if (!town.remembers(year) || !town.board.has(p) || !within(u, 0, USES)) return BAD;
        return notes.told >= Notes.MOST ? FULL : notes.add(town.year, year, p, u);
    }

    public int known(int k, int year, int p) {
        if (!within(k, 0, LAST_YEAR) || !town.remembers(year) || !town.board.has(p)) return BAD;
        if (k < year) return STATE;
        int n = notes.latest(k, year, p);
        return n < 0 ? town.usedIn(year, p) : notes.useIn(n);
    }

    // ---- sheets

    public int sheet(int k, int lane, int n) {
        if (!within(k, 0, Sheets.MOST - 1) || !within(lane, Sheets.BYTES, Sheets.INTS) || n > Sheets.CELLS) return BAD;
        if (n < 0) return -10 - Sheets.SIZE_FAULT;
        sheets.make(k, lane, n);
        return 1;
    }

    public int lay(int k, int i, int v) {
        if (!within(k, 0, Sheets.MOST - 1)) return BAD;
        if (sheets.isNothing(k)) return -10 - Sheets.NULL_FAULT;
        if (!sheets.hasCell(k, i)) return -10 - Sheets.INDEX_FAULT;
        sheets.put(k, i, v);
        return 1;
    }

    public int draw(int k, int lane, int f) {
        if (!within(k, 0, Sheets.MOST - 1) || !within(lane, Sheets.BYTES, Sheets.INTS)) return BAD;
        if (sheets.isNothing(k)) return -10 - Sheets.NULL_FAULT;
        if (sheets.laneOf(k) != lane) return -10 - Sheets.CAST_FAULT;
        int faulty = faultOfCells(k, f);
        if (faulty != 0) return faulty;
        if (groundIsRefused(k, f)) return STATE;
        if (acts.kept + actsToDraw(k, f) > Acts.MOST) return FULL;
        return drawPlots(k, f);
    }

    public int count(int what) {
        switch (what) {
            case 0: return town.board.plots;
            case 1: return town.board.countUsed();
            case 2: return town.laws.told;
            case 3: return town.seekers.come;
            case 4: return town.year;
            case 5: return town.chest;
            case 6: return acts.kept;
            case 7: return ways.trams;
            case 8: return trips.told;
            case 9: return plans.told;
            case 10: return notes.told;
            case 11: return tape.length;
            case 12: return sheets.isNothing(0) ? NONE : sheets.sizeOf(0);
            case 20: return town.board.plots - town.board.countUsed();
            default: return within(what, 21, 20 + USES) ? town.board.countUse(what - 20) : BAD;
        }
    }

    // ---- what the calls share

    private static boolean within(int v, int low, int high) {
        return v >= low && v <= high;
    }

    private static long bit(int p) {
        return 1L << p;
    }

    private boolean canStop(int p) {
        return town.board.has(p) && town.board.groundOf(p) != WATER;
    }

    private void growAnew(int leftOut) {
        anew.begin(town.board.w, town.board.h);
        int i = 0;
        for (int y = 0; y < town.year; y++) {
            for (; i < acts.kept && acts.yearOf(i) == y; i++) acts.redo(i, anew, leftOut);
            anew.grow();
        }
    }

    private boolean differs(int year) {
        for (int p = 0; p < town.board.plots; p++) {
            if (town.usedIn(year, p) != anew.usedIn(year, p)) return true;
        }
        return false;
    }

    /** The answer to the first cell that can't be read, or 0. */
    private int faultOfCells(int k, int f) {
        for (int i = 0; i < 2 * town.board.plots; i++) {
            if (f < 0 || !sheets.hasCell(k, f + i)) return -10 - Sheets.INDEX_FAULT;
            int most = i % 2 == 0 ? ROAD : HIGHEST;
            if (!within(sheets.cell(k, f + i), 0, most)) return -100 - i;
        }
        return 0;
    }

    private boolean newGround(int k, int f, int p) {
        return sheets.cell(k, f + 2 * p) != town.board.groundOf(p);
    }

    private boolean newHeight(int k, int f, int p) {
        return sheets.cell(k, f + 2 * p + 1) != town.board.heightOf(p);
    }

    private boolean groundIsRefused(int k, int f) {
        for (int p = 0; p < town.board.plots; p++) {
            if (newGround(k, f, p) && !town.canGround(p)) return true;
        }
        return false;
    }

    private int actsToDraw(int k, int f) {
        int n = 0;
        for (int p = 0; p < town.board.plots; p++) {
            if (newGround(k, f, p)) n++;
            if (newHeight(k, f, p)) n++;
        }
        return n;
    }

    private int drawPlots(int k, int f) {
        int others = 0;
        for (int p = 0; p < town.board.plots; p++) {
            boolean otherGround = newGround(k, f, p);
            boolean otherHeight = newHeight(k, f, p);
            if (otherGround) ground(p, sheets.cell(k, f + 2 * p));
            if (otherHeight) height(p, sheets.cell(k, f + 2 * p + 1));
            if (otherGround || otherHeight) others++;
        }
        return others;
    }

    /** The plots with their grounds, heights and uses. */
    private static final class Board {
        private static final int THINGS = 5, WATER_THING = 3;
        int w, h, plots;
        /** How often a ground or a height was put: who keeps what follows from them sees that it is stale. */
        int changes;
        private final int[] grounds = new int[PLOTS];
        private final int[] heights = new int[PLOTS];
        private final int[] uses = new int[PLOTS];
        /** Sets of plots, a bit each: wishes count plots often, and a set is counted at once. */
        private final long[] things = new long[THINGS];
        private final long[] near = new long[PLOTS * (FARTHEST + 1)];

        Board() {
            begin(4, 4);
        }

        void begin(int newW, int newH) {
            if (!within(newW, 1, SIDE) || !within(newH, 1, SIDE)) return;
            boolean sameShape = newW == w && newH == h;
            w = newW;
            h = newH;
            plots = newW * newH;
            changes++;
            Arrays.fill(grounds, LAND);
            Arrays.fill(heights, 0);
            Arrays.fill(uses, 0);
            Arrays.fill(things, 0L);
            if (!sameShape) measureNear();
        }

        private void measureNear() {
            Arrays.fill(near, 0L);
            for (int p = 0; p < plots && p < PLOTS; p++) {
                int row = p * (FARTHEST + 1);
                for (int q = 0; q < plots; q++) {
                    int d = far(p, q);
                    if (d >= 1 && d <= FARTHEST) near[row + d] |= bit(q);
                }
                for (int d = 1; d <= FARTHEST; d++) near[row + d] |= near[row + d - 1];
            }
        }

        boolean has(int p) {
            return p >= 0 && p < plots;
        }

        int xOf(int p) {
            return w > 0 ? p % w : 0;
        }

        int yOf(int p) {
            return w > 0 ? p / w : 0;
        }

        private int far(int p, int q) {
            return Math.abs(xOf(p) - xOf(q)) + Math.abs(yOf(p) - yOf(q));
        }

        /** The plot beside one: 0 above, 1 to the left, 2 to the right, 3 below; or -1. */
        int beside(int p, int side) {
            if (!has(p)) return -1;
            switch (side) {
                case 0: return yOf(p) > 0 ? p - w : -1;
                case 1: return xOf(p) > 0 ? p - 1 : -1;
                case 2: return xOf(p) < w - 1 ? p + 1 : -1;
                case 3: return yOf(p) < h - 1 ? p + w : -1;
                default: return -1;
            }
        }

        int groundOf(int p) {
            return p >= 0 && p < plots ? grounds[p] : WATER;
        }

        int heightOf(int p) {
            return p >= 0 && p < plots ? heights[p] : 0;
        }

        int useOf(int p) {
            return p >= 0 && p < plots ? uses[p] : 0;
        }

        boolean isFree(int p) {
            return has(p) && grounds[p] == LAND && uses[p] == 0;
        }

        int putGround(int p, int g) {
            if (!has(p) || !within(g, LAND, ROAD)) return BAD;
            int before = grounds[p];
            grounds[p] = g;
            changes++;
            becomeThing(p, thingOfGround(before), thingOfGround(g));
            return before;
        }

        int putHeight(int p, int v) {
            if (!has(p) || !within(v, 0, HIGHEST)) return BAD;
            int before = heights[p];
            heights[p] = v;
            changes++;
            return before;
        }

        int putUse(int p, int u) {
            if (!has(p) || !within(u, 0, USES)) return BAD;
            int before = uses[p];
            uses[p] = u;
            becomeThing(p, before - 1, u - 1);
            return before;
        }

        private static int thingOfGround(int g) {
            return g == LAND ? -1 : WATER_THING + g - WATER;
        }

        /** A plot is no longer one thing, but another (-1: none). */
        private void becomeThing(int p, int before, int after) {
            if (before >= 0 && before < THINGS) things[before] &= ~bit(p);
            if (after >= 0 && after < THINGS) things[after] |= bit(p);
        }

        /** How many plots have a use from 1 on. */
        int countUse(int u) {
            return u >= 1 && u <= USES ? Long.bitCount(things[u - 1]) : 0;
        }

        int countUsed() {
            return countUse(1) + countUse(2) + countUse(3);
        }

        /** How many plots other than p, as far at most, are a thing of a wish. */
        int countNear(int p, int far, int thing) {
            boolean inside = p >= 0 && p < plots && far >= 1 && far <= FARTHEST && thing >= 0 && thing < THINGS;
            return inside ? Long.bitCount(near[p * (FARTHEST + 1) + far] & things[thing]) : 0;
        }
    }

    /** The laws that one text told, a row of numbers each. */
    private static final class Laws {
        static final int MOST = 12;
        static final int ZONE = 0, WISH = 1, TAX = 2, CAP = 3, LEAVE = 4;
        /** Places in a row; behind the use stand the numbers of the act: */
        static final int ACT = 0, FROM = 1, USE = 2, NUMBER = 3;
        static final int LEFT = 3, TOP = 4, RIGHT = 5, BOTTOM = 6;
        static final int THING = 3, FAR = 4, POINTS = 5;
        private static final int WIDTH = 7;
        int told;
        private final int[] rows = new int[MOST * WIDTH];

        boolean has(int k) {
            return k >= 0 && k < told;
        }

        boolean areFull() {
            return told >= MOST;
        }

        int at(int k, int place) {
            return k >= 0 && k < told && place >= 0 && place < WIDTH ? rows[k * WIDTH + place] : 0;
        }

        void put(int k, int place, int v) {
            if (k >= 0 && k < told && place >= 0 && place < WIDTH) rows[k * WIDTH + place] = v;
        }

        int add(int act, int from) {
            if (areFull()) return -1;
            int k = told;
            told++;
            for (int place = 0; place < WIDTH; place++) put(k, place, 0);
            put(k, ACT, act);
            put(k, FROM, from);
            return k;
        }

        /** Becomes as other laws are, but for the one left out. */
        void take(Laws others, int leftOut) {
            told = 0;
            for (int k = 0; k < others.told; k++) {
                if (k == leftOut) continue;
                int mine = add(others.at(k, ACT), others.at(k, FROM));
                for (int place = USE; place < WIDTH; place++) put(mine, place, others.at(k, place));
            }
        }

        /** Whether a tax, cap or leave of a use is told with this from. */
        boolean tell(int act, int use, int from) {
            for (int k = 0; k < told; k++) {
                if (at(k, ACT) == act && at(k, USE) == use && at(k, FROM) == from) return true;
            }
            return false;
        }

        boolean holds(int k, int year) {
            if (!has(k) || at(k, FROM) > year) return false;
            int act = at(k, ACT);
            if (act == ZONE || act == WISH) return true;
            for (int other = 0; other < told; other++) {
                boolean alike = at(other, ACT) == act && at(other, USE) == at(k, USE);
                if (alike && at(other, FROM) <= year && at(other, FROM) > at(k, FROM)) return false;
            }
            return true;
        }

        /** The number of the tax, cap or leave of a use that holds, or -1: none of them is told below 0. */
        int number(int act, int use, int year) {
            int number = -1;
            int latest = -1;
            for (int k = 0; k < told; k++) {
                int from = at(k, FROM);
                if (at(k, ACT) != act || at(k, USE) != use || from > year || from <= latest) continue;
                number = at(k, NUMBER);
                latest = from;
            }
            return number;
        }

        boolean zonesAllow(int use, int x, int y, int year) {
            boolean zoned = false;
            for (int k = 0; k < told; k++) {
                if (at(k, ACT) != ZONE || at(k, FROM) > year) continue;
                if (!within(x, at(k, LEFT), at(k, RIGHT)) || !within(y, at(k, TOP), at(k, BOTTOM))) continue;
                if (at(k, USE) == use) return true;
                zoned = true;
            }
            return !zoned;
        }
    }

    /** The tape, and the reading of laws from it: it is split into tokens, then they are taken one by one. */
    private static final class LawText {
        private static final int MOST = 320;
        private static final int END = 0, NAME = 1, NUMBER = 2, SEMICOLON = 3, WRONG = 4;
        /** Words: those of the acts are numbered as the acts are, those of uses and things follow one another. */
        private static final int FROM = 5, HOME = 6, SHOP = 8, ROAD_WORD = 10;
        private static final int NO_TOKEN = 1, MISPLACED = 2, OUT_OF_BOUNDS = 3, TOO_MANY = 4, TOLD_TWICE = 5;
        private static final int FIGURES = 3;
        int length;
        int fault, faultPlace;
        private final int[] bytes = new int[MOST];
        /** The tokens: their kinds, the places of their first bytes, their numbers or words. */
        private int tokens;
        private final int[] kinds = new int[MOST + 1];
        private final int[] starts = new int[MOST + 1];
        private final int[] values = new int[MOST + 1];
        /** The token that comes next, and the number or word of the one that was taken last. */
        private int next, taken;

        boolean append(long v) {
            if (length < 0 || length + 8 > MOST) return false;
            for (int i = 0; i < 8; i++) bytes[length + i] = (int) (v >>> 56 - 8 * i) & 255;
            length += 8;
            return true;
        }

        // ---- tokens

        private int byteAt(int place) {
            return place >= 0 && place < length && place < MOST ? bytes[place] : 0;
        }

        private boolean isLetter(int place) {
            return byteAt(place) >= 'a' && byteAt(place) <= 'z';
        }

        private boolean isFigure(int place) {
            return byteAt(place) >= '0' && byteAt(place) <= '9';
        }

        /** Splits the tape up to its end, or up to what is no token: the taking never comes behind that. */
        private void split() {
            tokens = 0;
            int place = 0;
            // each token but the end has a byte at least
            for (int i = 0; i <= MOST && !isLastOne(); i++) place = addTokenAt(behindBlanks(place));
        }

        private boolean isLastOne() {
            if (tokens < 1 || tokens > MOST + 1) return false;
            return kinds[tokens - 1] == END || kinds[tokens - 1] == WRONG;
        }

        private int behindBlanks(int place) {
            int behind = place;
            while (behind < length && byteAt(behind) == ' ') behind++;
            return behind;
        }

        private int behindLetters(int place) {
            int behind = place;
            while (behind < length && isLetter(behind)) behind++;
            return behind;
        }

        private int behindFigures(int place) {
            int behind = place;
            while (behind < length && isFigure(behind)) behind++;
            return behind;
        }

        /** Adds the token that begins at a place: the place behind it. */
        private int addTokenAt(int start) {
            if (start >= length) {
                addToken(END, start, 0);
                return start;
            }
            if (isLetter(start)) {
                int behind = behindLetters(start);
                addName(start, behind);
                return behind;
            }
            if (isFigure(start) || byteAt(start) == '-') {
                int behind = behindFigures(start + 1);
                addNumber(start, behind);
                return behind;
            }
            addToken(byteAt(start) == ';' ? SEMICOLON : WRONG, start, 0);
            return start + 1;
        }

        private void addToken(int kind, int start, int value) {
            if (tokens < 0 || tokens > MOST) return;
            kinds[tokens] = kind;
            starts[tokens] = start;
            values[tokens] = value;
            tokens++;
        }

        private void addName(int start, int behind) {
            for (int i = 0; i <= ROAD_WORD; i++) {
                if (spells(word(i), start, behind)) {
                    addToken(NAME, start, i);
                    return;
                }
            }
            addToken(WRONG, start, 0);
        }

        private boolean spells(String word, int start, int behind) {
            if (word.length() != behind - start) return false;
            for (int i = 0; i < word.length(); i++) {
                if (word.charAt(i) != byteAt(start + i)) return false;
            }
            return true;
        }

        private static String word(int i) {
            switch (i) {
                case 0: return "zone";
                case 1: return "wish";
                case 2: return "tax";
                case 3: return "cap";
                case 4: return "leave";
                case 5: return "from";
                case 6: return "home";
                case 7: return "work";
                case 8: return "shop";
                case 9: return "water";
                case 10: return "road";
                default: return "";
            }
        }

        private void addNumber(int start, int behind) {
            boolean negative = byteAt(start) == '-';
            int first = negative ? start + 1 : start;
            int figures = behind - first;
            if (figures < 1 || figures > FIGURES) {
                addToken(WRONG, start, 0);
                return;
            }
            int value = 0;
            for (int i = first; i < behind; i++) value = value * 10 + byteAt(i) - '0';
            addToken(NUMBER, start, negative ? -value : value);
        }

        // ---- taking

        boolean readInto(Laws laws) {
            laws.told = 0;
            fault = 0;
            split();
            next = 0;
            // each law takes a token at least, or is refused
            for (int i = 0; i < tokens; i++) {
                if (nextKind() == END) return true;
                if (!readLaw(laws)) return false;
            }
            return nextKind() == END;
        }

        private int nextKind() {
            return next >= 0 && next < tokens && next <= MOST ? kinds[next] : END;
        }

        /** The next token can't be taken: why, if it is a token at all. */
        private boolean refuse(int why) {
            boolean inside = next >= 0 && next < tokens && next <= MOST;
            fault = inside && kinds[next] == WRONG ? NO_TOKEN : why;
            faultPlace = inside ? starts[next] : length;
            return false;
        }

        private boolean isNext(int kind, int low, int high) {
            boolean inside = next >= 0 && next < tokens && next <= MOST;
            return inside && kinds[next] == kind && values[next] >= low && values[next] <= high;
        }

        private void take() {
            if (next < 0 || next >= tokens || next > MOST) return;
            taken = values[next];
            next++;
        }

        private boolean takeWord(int low, int high) {
            if (!isNext(NAME, low, high)) return refuse(MISPLACED);
            take();
            return true;
        }

        private boolean takeNumber(int low, int high) {
            if (nextKind() != NUMBER) return refuse(MISPLACED);
            if (!isNext(NUMBER, low, high)) return refuse(OUT_OF_BOUNDS);
            take();
            return true;
        }

        private boolean readLaw(Laws laws) {
            if (!isNext(NAME, Laws.ZONE, FROM)) return refuse(MISPLACED);
            if (laws.areFull()) return refuse(TOO_MANY);
            int from = 0;
            if (isNext(NAME, FROM, FROM)) {
                take();
                if (!takeNumber(0, LAST_YEAR)) return false;
                from = taken;
            }
            if (!takeWord(Laws.ZONE, Laws.LEAVE)) return false;
            int act = taken;
            if (!isNext(NAME, HOME, SHOP)) return refuse(MISPLACED);
            boolean once = act == Laws.TAX || act == Laws.CAP || act == Laws.LEAVE;
            if (once && laws.tell(act, nextUse(), from)) return refuse(TOLD_TWICE);
            int k = laws.add(act, from);
            laws.put(k, Laws.USE, nextUse());
            take();
            if (!readNumbers(act, laws, k)) return false;
            if (nextKind() != SEMICOLON) return refuse(MISPLACED);
            take();
            return true;
        }

        private int nextUse() {
            return next >= 0 && next < tokens && next <= MOST ? values[next] - HOME + 1 : 0;
        }

        /** Reads what stands behind the use. */
        private boolean readNumbers(int act, Laws laws, int k) {
            switch (act) {
                case Laws.ZONE:
                    return readNumber(laws, k, Laws.LEFT, 0, SIDE - 1)
                        && readNumber(laws, k, Laws.TOP, 0, SIDE - 1)
                        && readNumber(laws, k, Laws.RIGHT, laws.at(k, Laws.LEFT), SIDE - 1)
                        && readNumber(laws, k, Laws.BOTTOM, laws.at(k, Laws.TOP), SIDE - 1);
                case Laws.WISH:
                    if (!takeWord(HOME, ROAD_WORD)) return false;
                    laws.put(k, Laws.THING, taken - HOME);
                    return readNumber(laws, k, Laws.FAR, 1, FARTHEST) && readNumber(laws, k, Laws.POINTS, -99, 99);
                case Laws.TAX:
                    return readNumber(laws, k, Laws.NUMBER, 0, 100);
                case Laws.CAP:
                    return readNumber(laws, k, Laws.NUMBER, 0, 64);
                default:
                    return readNumber(laws, k, Laws.NUMBER, 0, 999);
            }
        }

        private boolean readNumber(Laws laws, int k, int place, int low, int high) {
            if (!takeNumber(low, high)) return false;
            laws.put(k, place, taken);
            return true;
        }
    }

    /** The seekers, and how their bids settle. */
    private static final class Seekers {
        static final int MOST = 20;
        /** No seeker asks a plot twice, so bids settle in fewer rounds. */
        private static final int ROUNDS = MOST * PLOTS + 1;
        int come;
        private final int[] use = new int[MOST];
        private final int[] purse = new int[MOST];
        private final int[] taste = new int[MOST];
        private final int[] coming = new int[MOST];
        private final int[] plot = new int[MOST];
        private final int[] left = new int[MOST];
        private final int[] paid = new int[MOST];
        private final int[] since = new int[MOST];
        /** As bids settle: the plot that holds a seeker, its bid there, the plots that let it go (a bit each). */
        private final int[] heldBy = new int[MOST];
        private final int[] bid = new int[MOST];
        private final long[] letGo = new long[MOST];
        /** As bids settle: the seeker that a plot holds. */
        private final int[] holds = new int[PLOTS];
        /** What seekers see of plots as a year begins: those that may become each use, worths for each use. */
        private final long[] open = new long[USES + 1];
        private final int[] worths = new int[(USES + 1) * PLOTS];
        private final int[] heights = new int[PLOTS];

        boolean has(int s) {
            return s >= 0 && s < come && s < MOST;
        }

        boolean areFull() {
            return come >= MOST;
        }

        int add(int u, int itsPurse, int itsTaste, int year) {
            if (!within(come, 0, MOST - 1)) return FULL;
            int s = come;
            come++;
            use[s] = u;
            purse[s] = itsPurse;
            taste[s] = itsTaste;
            coming[s] = year;
            plot[s] = NONE;
            left[s] = 0;
            paid[s] = 0;
            since[s] = NONE;
            return s;
        }

        int tell(int s, int what) {
            if (!has(s)) return BAD_TOLD;
            switch (what) {
                case 0: return use[s];
                case 1: return purse[s];
                case 2: return taste[s];
                case 3: return coming[s];
                case 4: return plot[s];
                case 5: return left[s];
                case 6: return paid[s];
                case 7: return since[s];
                default: return BAD_TOLD;
            }
        }

        int useOf(int s) {
            return has(s) ? use[s] : 0;
        }

        int plotOf(int s) {
            return has(s) ? plot[s] : NONE;
        }

        int ownerOf(int p) {
            for (int s = 0; s < come; s++) {
                if (plotOf(s) == p) return s;
            }
            return NONE;
        }

        int heldBy(int s) {
            return has(s) ? heldBy[s] : NONE;
        }

        boolean waits(int s, int year) {
            return has(s) && coming[s] <= year && plot[s] == NONE && left[s] == 0;
        }

        void leave(int s) {
            if (!has(s)) return;
            plot[s] = NONE;
            left[s] = 1;
        }

        /** A seeker becomes the owner of the plot that holds it. */
        void own(int s, int year) {
            if (!has(s)) return;
            plot[s] = heldBy[s];
            paid[s] = bid[s];
            since[s] = year;
        }

        /** Whether one who waits wants plots of a use. */
        boolean want(int u, int year) {
            for (int s = 0; s < come; s++) {
                if (waits(s, year) && use[s] == u) return true;
            }
            return false;
        }

        void see(int u, int p, int worth, int height, boolean may) {
            if (!within(u, 1, USES) || !within(p, 0, PLOTS - 1)) return;
            worths[u * PLOTS + p] = worth;
            heights[p] = height;
            open[u] = may ? open[u] | bit(p) : open[u] & ~bit(p);
        }

        void settle(int year, int ofPlots) {
            Arrays.fill(heldBy, NONE);
            Arrays.fill(letGo, 0L);
            Arrays.fill(holds, NONE);
            boolean asked = true;
            for (int round = 0; asked && round < ROUNDS; round++) {
                asked = false;
                for (int s = 0; s < come; s++) {
                    if (waits(s, year) && heldBy(s) == NONE && ask(s, ofPlots)) asked = true;
                }
            }
        }

        private boolean ask(int s, int ofPlots) {
            int p = bestPlot(s, ofPlots);
            if (!has(s) || p < 0 || p >= PLOTS) return false;
            bid[s] = Math.min(valueOf(s, p), purse[s]);
            int other = holds[p];
            if (has(other) && !outbids(s, other)) {
                letGo[s] |= bit(p);
                return true;
            }
            if (has(other)) {
                letGo[other] |= bit(p);
                heldBy[other] = NONE;
            }
            holds[p] = s;
            heldBy[s] = p;
            return true;
        }

        private boolean outbids(int s, int other) {
            if (!has(s) || !has(other)) return false;
            return bid[s] > bid[other] || bid[s] == bid[other] && s < other;
        }

        private int valueOf(int s, int p) {
            if (!has(s) || !within(p, 0, PLOTS - 1) || !within(use[s], 1, USES)) return 0;
            return worths[use[s] * PLOTS + p] + taste[s] * heights[p];
        }

        /** The plot that a seeker asks next, or NONE. */
        private int bestPlot(int s, int ofPlots) {
            if (!has(s) || !within(use[s], 1, USES)) return NONE;
            long asks = open[use[s]] & ~letGo[s];
            int best = NONE;
            int greatest = 0;
            for (int p = 0; p < ofPlots && p < PLOTS; p++) {
                if ((asks >> p & 1) == 0) continue;
                int value = valueOf(s, p);
                if (value > greatest) {
                    best = p;
                    greatest = value;
                }
            }
            return best;
        }
    }

    /** What grows: the board, its laws and seekers, and the years that are remembered. */
    private static final class Town {
        static final int FIGURES = 4;
        /** The figures of a year. */
        static final int BECAME = 0, LEFT = 1, TAXES = 2, USED = 3;
        final Board board = new Board();
        final Laws laws = new Laws();
        final Seekers seekers = new Seekers();
        int year, chest;
        private final int[] uses = new int[YEARS * PLOTS];
        private final int[] figures = new int[YEARS * FIGURES];
        /** Worths of the seekers' plots as taxes are taken: those who leave go by these too. */
        private final int[] taxed = new int[Seekers.MOST];

        void begin(int w, int h) {
            board.begin(w, h);
            laws.told = 0;
            seekers.come = 0;
            year = 0;
            chest = 0;
        }

        boolean canGround(int p) {
            return board.useOf(p) == 0;
        }

        boolean canUse(int p, int u) {
            return u == 0 || board.groundOf(p) == LAND;
        }

        int putUse(int p, int u) {
            seekers.leave(seekers.ownerOf(p));
            return board.putUse(p, u);
        }

        int adds(int p, int u, int k) {
            boolean wish = laws.at(k, Laws.ACT) == Laws.WISH && laws.at(k, Laws.USE) == u;
            if (!wish || laws.at(k, Laws.FROM) > year) return 0;
            int things = board.countNear(p, laws.at(k, Laws.FAR), laws.at(k, Laws.THING));
            return laws.at(k, Laws.POINTS) * things;
        }

        int worthOf(int p, int u) {
            int worth = 10;
            for (int k = 0; k < laws.told; k++) worth += adds(p, u, k);
            return worth;
        }

        int sumOfWorths() {
            int sum = 0;
            for (int p = 0; p < board.plots; p++) {
                int u = board.useOf(p);
                if (u != 0) sum += worthOf(p, u);
            }
            return sum;
        }

        boolean mayBecome(int p, int u) {
            if (!board.isFree(p) || !laws.zonesAllow(u, board.xOf(p), board.yOf(p), year)) return false;
            int cap = laws.number(Laws.CAP, u, year);
            return cap < 0 || board.countUse(u) < cap;
        }

        /** Shows the waiting seekers the plots, so that their bids can settle. */
        void showPlots() {
            for (int u = 1; u <= USES; u++) {
                if (!seekers.want(u, year)) continue;
                for (int p = 0; p < board.plots; p++) {
                    seekers.see(u, p, worthOf(p, u), board.heightOf(p), mayBecome(p, u));
                }
            }
        }

        /** A year goes: how many became owners. */
        int grow() {
            if (!within(year, 0, YEARS - 1)) return FULL;
            showPlots();
            seekers.settle(year, board.plots);
            int became = settleIn();
            int taxes = takeTaxes();
            int left = sendAway();
            chest += taxes;
            putFigure(BECAME, became);
            putFigure(LEFT, left);
            putFigure(TAXES, taxes);
            putFigure(USED, board.countUsed());
            for (int p = 0; p < board.plots && p < PLOTS; p++) uses[year * PLOTS + p] = board.useOf(p);
            year++;
            return became;
        }

        private int settleIn() {
            int became = 0;
            for (int s = 0; s < seekers.come; s++) {
                int p = seekers.heldBy(s);
                if (p == NONE) continue;
                seekers.own(s, year);
                board.putUse(p, seekers.useOf(s));
                became++;
            }
            return became;
        }

        private int takeTaxes() {
            int taxes = 0;
            for (int s = 0; s < seekers.come && s < taxed.length; s++) {
                int p = seekers.plotOf(s);
                if (p == NONE) continue;
                int u = seekers.useOf(s);
                taxed[s] = worthOf(p, u);
                int tax = laws.number(Laws.TAX, u, year);
                if (tax > 0) taxes += Math.max(0, Math.floorDiv(taxed[s] * tax, 100));
            }
            return taxes;
        }

        private int sendAway() {
            int left = 0;
            for (int s = 0; s < seekers.come && s < taxed.length; s++) {
                int p = seekers.plotOf(s);
                if (p == NONE) continue;
                int least = laws.number(Laws.LEAVE, seekers.useOf(s), year);
                if (least < 0 || taxed[s] >= least) continue;
                seekers.leave(s);
                board.putUse(p, 0);
                left++;
            }
            return left;
        }

        private void putFigure(int what, int v) {
            if (within(year, 0, YEARS - 1) && within(what, 0, FIGURES - 1)) figures[year * FIGURES + what] = v;
        }

        boolean remembers(int y) {
            return y >= 0 && y < year && y < YEARS;
        }

        int usedIn(int y, int p) {
            return remembers(y) && board.has(p) ? uses[y * PLOTS + p] : 0;
        }

        int figure(int y, int what) {
            return remembers(y) && within(what, 0, FIGURES - 1) ? figures[y * FIGURES + what] : 0;
        }
    }

    /** The acts that were not refused, in their order, to be done again in a town that is grown anew. */
    private static final class Acts {
        static final int MOST = 60;
        static final int GROUND = 0, HEIGHT = 1, USE = 2, SEEKER = 3, LAWS = 4;
        private static final int NUMBERS = 4;
        int kept;
        private final int[] kinds = new int[MOST];
        private final int[] years = new int[MOST];
        private final int[] numbers = new int[MOST * NUMBERS];
        /** Rows for laws, made when they are first needed and used again. */
        private final Laws[] told = new Laws[MOST];

        void forget() {
            kept = 0;
        }

        boolean areFull() {
            return kept >= MOST;
        }

        void keep(int kind, int year, int p, int v) {
            if (areFull() || kept < 0) return;
            kinds[kept] = kind;
            years[kept] = year;
            kept++;
            putNumber(0, p);
            putNumber(1, v);
        }

        void keepSeeker(int year, int u, int purse, int taste, int coming) {
            if (areFull()) return;
            keep(SEEKER, year, u, purse);
            putNumber(2, taste);
            putNumber(3, coming);
        }

        void keepLaws(int year, Laws laws) {
            if (areFull() || kept < 0) return;
            if (told[kept] == null) told[kept] = new Laws();
            told[kept].take(laws, -1);
            keep(LAWS, year, 0, 0);
        }

        /** A number of the latest act. */
        private void putNumber(int i, int v) {
            if (within(kept, 1, MOST) && within(i, 0, NUMBERS - 1)) numbers[(kept - 1) * NUMBERS + i] = v;
        }

        private int number(int act, int i) {
            return has(act) && within(i, 0, NUMBERS - 1) ? numbers[act * NUMBERS + i] : 0;
        }

        private boolean has(int act) {
            return act >= 0 && act < kept && act < MOST;
        }

        int yearOf(int act) {
            return has(act) ? years[act] : NONE;
        }

        /** Does an act in another town, unless it would be refused there. */
        void redo(int act, Town other, int leftOut) {
            if (!has(act)) return;
            int p = number(act, 0);
            int v = number(act, 1);
            switch (kinds[act]) {
                case GROUND:
                    if (other.canGround(p)) other.board.putGround(p, v);
                    break;
                case HEIGHT:
                    other.board.putHeight(p, v);
                    break;
                case USE:
                    if (other.canUse(p, v)) other.putUse(p, v);
                    break;
                case SEEKER:
                    other.seekers.add(p, v, number(act, 2), number(act, 3));
                    break;
                default:
                    if (told[act] != null) other.laws.take(told[act], leftOut);
                    break;
            }
        }
    }

    /** Ways by roads and trams. A place on one is a plot or, numbered behind these, to be on a tram at a stop. */
    private static final class Ways {
        static final int TRAMS = 4, STOPS = 6;
        private static final int ABOARD = TRAMS * STOPS, PLACES = PLOTS + ABOARD, SIDES = 4;
        private static final int COME_ON = 2, RIDE = 1, CROWDING = 2, UNREACHED = 1000000;
        private final Board board;
        int trams;
        private final int[] stops = new int[ABOARD];
        private final int[] stopCounts = new int[TRAMS];
        /** Steps from each plot to each side: the plot they go to (or -1), what they take, how many trips go there. */
        private final int[] ends = new int[PLOTS * SIDES];
        private final int[] bare = new int[PLOTS * SIDES];
        private final int[] crowd = new int[PLOTS * SIDES];
        /** For which board the steps are laid out. */
        private int laidFor = -1;
        /** As measured: the time from each place to the end, and whether it is final. */
        private final int[] times = new int[PLACES];
        private final int[] done = new int[PLACES];
        private boolean onFoot;
        /** As traced: the plots of the way; and the places where those who go it may be now (trams: a bit each). */
        int length;
        private final int[] plots = new int[PLACES];
        private boolean afoot;
        private int aboard;

        Ways(Board itsBoard) {
            board = itsBoard;
        }

        int changes() {
            return board.changes;
        }

        // ---- trams

        void forgetTrams() {
            trams = 0;
            Arrays.fill(stopCounts, 0);
        }

        int addTram(int p, int q) {
            if (!within(trams, 0, TRAMS - 1)) return FULL;
            int t = trams;
            trams++;
            addStop(t, p);
            addStop(t, q);
            return t;
        }

        int addStop(int t, int p) {
            int n = stopsOf(t);
            if (!within(t, 0, TRAMS - 1) || !within(n, 0, STOPS - 1)) return FULL;
            stops[t * STOPS + n] = p;
            stopCounts[t] = n + 1;
            return n + 1;
        }

        int stopsOf(int t) {
            return within(t, 0, TRAMS - 1) ? stopCounts[t] : 0;
        }

        int lastStop(int t) {
            int n = stopsOf(t);
            return within(n, 1, STOPS) ? stopPlot(t * STOPS + n - 1) : NONE;
        }

        private int stopPlot(int a) {
            return a >= 0 && a < ABOARD && a % STOPS < stopCounts[a / STOPS] ? stops[a] : NONE;
        }

        /** The stop next to one on its tram, ahead (1) or back (-1), or -1. */
        private int nextStop(int a, int by) {
            if (a < 0 || a >= ABOARD) return -1;
            int n = a % STOPS + by;
            return n >= 0 && n < stopCounts[a / STOPS] ? a + by : -1;
        }

        // ---- steps

        private void layOut() {
            if (laidFor == board.changes) return;
            laidFor = board.changes;
            for (int p = 0; p < PLOTS; p++) {
                for (int side = 0; side < SIDES; side++) {
                    int q = board.beside(p, side);
                    boolean gone = q >= 0 && board.groundOf(p) != WATER && board.groundOf(q) != WATER;
                    ends[p * SIDES + side] = gone ? q : -1;
                    bare[p * SIDES + side] = gone ? bareStep(p, q) : UNREACHED;
                }
            }
        }

        private int bareStep(int p, int q) {
            boolean road = board.groundOf(p) == ROAD && board.groundOf(q) == ROAD;
            return (road ? 1 : 3) + Math.abs(board.heightOf(p) - board.heightOf(q));
        }

        /** The plot that a step goes to, or -1. */
        private int stepEnd(int p, int side) {
            return p >= 0 && p < PLOTS && side >= 0 && side < SIDES ? ends[p * SIDES + side] : -1;
        }

        private int stepTime(int p, int side) {
            if (p < 0 || p >= PLOTS || side < 0 || side >= SIDES) return UNREACHED;
            int i = p * SIDES + side;
            return onFoot ? bare[i] + CROWDING * crowd[i] : bare[i];
        }

        private int sideTo(int p, int q) {
            for (int side = 0; side < SIDES; side++) {
                if (q >= 0 && stepEnd(p, side) == q) return side;
            }
            return -1;
        }

        /** What the step to a plot beside takes, as it was measured last. */
        int timeBeside(int p, int q) {
            return stepTime(p, sideTo(p, q));
        }

        void forgetCrowd() {
            Arrays.fill(crowd, 0);
        }

        /** One trip more (by 1) or less (by -1) goes between two plots. */
        void addCrowd(int p, int q, int by) {
            int there = sideTo(p, q);
            int back = sideTo(q, p);
            if (there < 0 || back < 0 || !within(p, 0, PLOTS - 1) || !within(q, 0, PLOTS - 1)) return;
            crowd[p * SIDES + there] += by;
            crowd[q * SIDES + back] += by;
        }

        // ---- measuring

        /** Measures the times from all places to a plot: by trams, or on foot among the crowd. */
        void measure(int to, boolean walking) {
            onFoot = walking;
            layOut();
            Arrays.fill(times, UNREACHED);
            Arrays.fill(done, 0);
            if (!within(to, 0, PLOTS - 1) || board.groundOf(to) == WATER) return;
            times[to] = 0;
            for (int i = 0; i < PLACES; i++) {
                int place = nearest();
                if (place < 0 || place >= PLACES) return;
                done[place] = 1;
                if (place < PLOTS) {
                    reachPlot(place);
                } else {
                    reachAboard(place - PLOTS);
                }
            }
        }

        /** The nearest place that is not final, or -1. */
        private int nearest() {
            int best = -1;
            int least = UNREACHED;
            int behind = onFoot ? board.plots : PLOTS + trams * STOPS;
            for (int place = 0; place < behind && place < PLACES; place++) {
                if (done[place] == 0 && times[place] < least) {
                    best = place;
                    least = times[place];
                }
            }
            return best;
        }

        private void shorten(int place, int time) {
            if (place >= 0 && place < PLACES && time < times[place]) times[place] = time;
        }

        /** Shortens the times of places from where one comes to a plot: steps take the same either way. */
        private void reachPlot(int p) {
            int time = timeFrom(p);
            for (int side = 0; side < SIDES; side++) {
                shorten(stepEnd(p, side), time + stepTime(p, side));
            }
            if (onFoot) return;
            for (int a = 0; a < trams * STOPS; a++) {
                if (stopPlot(a) == p) shorten(PLOTS + a, time);
            }
        }

        /** Shortens the times of places from where one comes to be on a tram at a stop. */
        private void reachAboard(int a) {
            int time = timeFrom(PLOTS + a);
            int p = stopPlot(a);
            int back = nextStop(a, -1);
            int ahead = nextStop(a, 1);
            if (board.groundOf(p) != WATER) shorten(p, time + COME_ON);
            if (back >= 0) shorten(PLOTS + back, time + RIDE);
            if (ahead >= 0) shorten(PLOTS + ahead, time + RIDE);
        }

        int timeFrom(int place) {
            return place >= 0 && place < PLACES ? times[place] : UNREACHED;
        }

        boolean reaches(int place) {
            return timeFrom(place) < UNREACHED;
        }

        // ---- tracing

        /** Traces the way from a plot to the one that was measured to, among all of least time at once. */
        void trace(int from) {
            length = 0;
            if (!reaches(from)) return;
            int p = from;
            afoot = true;
            aboard = 0;
            for (int i = 0; i < PLACES && p >= 0; i++) {
                plots[i] = p;
                length = i + 1;
                changeAt(p);
                int next = nextPlot(p);
                goOn(p, next);
                p = next;
            }
        }

        int plotAt(int i) {
            return i >= 0 && i < length && i < PLACES ? plots[i] : NONE;
        }

        private boolean isAboard(int a) {
            return (aboard >> a & 1) == 1;
        }

        /** To go off and to come on adds no plot: who may be at one of these places may be at the other. */
        private void changeAt(int p) {
            if (onFoot || board.groundOf(p) == WATER) return;
            for (int a = 0; a < ABOARD; a++) {
                if (isAboard(a) && timeFrom(PLOTS + a) == timeFrom(p)) afoot = true;
            }
            for (int a = 0; afoot && a < ABOARD; a++) {
                if (stopPlot(a) == p && timeFrom(p) == timeFrom(PLOTS + a) + COME_ON) aboard |= 1 << a;
            }
        }

        private boolean isStepOn(int p, int side) {
            int q = stepEnd(p, side);
            return q >= 0 && timeFrom(p) == timeFrom(q) + stepTime(p, side);
        }

        private boolean isRideOn(int a, int by) {
            int b = nextStop(a, by);
            return b >= 0 && isAboard(a) && timeFrom(PLOTS + a) == timeFrom(PLOTS + b) + RIDE;
        }

        /** The least plot that a way of least time goes on to, or -1. */
        private int nextPlot(int p) {
            int least = PLOTS;
            for (int side = 0; afoot && side < SIDES; side++) {
                if (isStepOn(p, side)) least = Math.min(least, stepEnd(p, side));
            }
            for (int a = 0; aboard != 0 && a < ABOARD; a++) {
                if (isRideOn(a, -1)) least = Math.min(least, stopPlot(a - 1));
                if (isRideOn(a, 1)) least = Math.min(least, stopPlot(a + 1));
            }
            return least < PLOTS ? least : -1;
        }

        /** Goes on to a plot in all ways that there are. */
        private void goOn(int p, int to) {
            boolean nextAfoot = false;
            int nextAboard = 0;
            for (int side = 0; afoot && side < SIDES; side++) {
                if (isStepOn(p, side) && stepEnd(p, side) == to) nextAfoot = true;
            }
            for (int a = 0; aboard != 0 && a < ABOARD; a++) {
                if (isRideOn(a, -1) && stopPlot(a - 1) == to) nextAboard |= 1 << a - 1;
                if (isRideOn(a, 1) && stopPlot(a + 1) == to) nextAboard |= 1 << a + 1;
            }
            afoot = nextAfoot;
            aboard = nextAboard;
        }
    }

    /** Trips on foot that crowd one another. */
    private static final class Trips {
        static final int MOST = 8;
        private static final int ROUNDS = 40;
        private final Ways ways;
        int told, rounds;
        boolean spent;
        /** For how many trips and which board it is settled, so that it is not settled again for nothing. */
        private int settledFor = -1, settledAt;
        private final int[] from = new int[MOST];
        private final int[] to = new int[MOST];
        private final int[] out = new int[MOST];
        private final int[] alone = new int[MOST];
        private final int[] takes = new int[MOST];
        private final int[] lengths = new int[MOST];
        private final int[] plots = new int[MOST * PLOTS];

        Trips(Ways itsWays) {
            ways = itsWays;
        }

        void forget() {
            told = 0;
            settledFor = -1;
        }

        private boolean has(int t) {
            return t >= 0 && t < told && t < MOST;
        }

        int add(int p, int q) {
            if (!within(told, 0, MOST - 1)) return FULL;
            from[told] = p;
            to[told] = q;
            told++;
            return told - 1;
        }

        boolean isOut(int t) {
            return !has(t) || out[t] == 1;
        }

        int takes(int t) {
            return has(t) ? takes[t] : 0;
        }

        int goesThrough(int t) {
            return has(t) ? lengths[t] : 0;
        }

        int takesAlone(int t) {
            return has(t) ? alone[t] : 0;
        }

        int plotAt(int t, int i) {
            return has(t) && i >= 0 && i < PLOTS && i < lengths[t] ? plots[t * PLOTS + i] : NONE;
        }

        void settle() {
            if (settledFor == told && settledAt == ways.changes()) return;
            settledFor = told;
            settledAt = ways.changes();
            begin();
            boolean changed = true;
            for (rounds = 0; changed && rounds < ROUNDS; rounds++) changed = goRound();
            spent = changed;
        }

        private void begin() {
            ways.forgetCrowd();
            for (int t = 0; t < told && t < MOST; t++) {
                ways.measure(to[t], true);
                out[t] = ways.reaches(from[t]) ? 0 : 1;
                alone[t] = ways.timeFrom(from[t]);
                ways.trace(from[t]);
                keepTraced(t);
            }
            for (int t = 0; t < told; t++) addCrowd(t, 1);
        }

        private void keepTraced(int t) {
            if (!has(t)) return;
            lengths[t] = Math.min(ways.length, PLOTS);
            for (int i = 0; i < lengths[t]; i++) plots[t * PLOTS + i] = ways.plotAt(i);
        }

        private void addCrowd(int t, int by) {
            for (int i = 1; i < goesThrough(t); i++) ways.addCrowd(plotAt(t, i - 1), plotAt(t, i), by);
        }

        private int timeOfWay(int t) {
            int sum = 0;
            for (int i = 1; i < goesThrough(t); i++) sum += ways.timeBeside(plotAt(t, i - 1), plotAt(t, i));
            return sum;
        }

        /** Each trip in order is measured among the others alone; in the last round, that none changes, all stands. */
        private boolean goRound() {
            boolean changed = false;
            for (int t = 0; t < told && t < MOST; t++) {
                if (isOut(t)) continue;
                addCrowd(t, -1);
                ways.measure(to[t], true);
                takes[t] = timeOfWay(t);
                if (ways.timeFrom(from[t]) < takes[t]) {
                    ways.trace(from[t]);
                    keepTraced(t);
                    changed = true;
                }
                addCrowd(t, 1);
            }
            return changed;
        }
    }

    /** Plans, and which of them are chosen. */
    private static final class Plans {
        static final int MOST = 6;
        int told;
        int bestSet, bestCost, bestSum;
        private final int[] plots = new int[MOST];
        private final int[] kinds = new int[MOST];
        private final int[] costs = new int[MOST];

        private boolean has(int k) {
            return k >= 0 && k < told && k < MOST;
        }

        int add(int p, int kind, int cost) {
            if (!within(told, 0, MOST - 1)) return FULL;
            plots[told] = p;
            kinds[told] = kind;
            costs[told] = cost;
            told++;
            return told - 1;
        }

        int plotOf(int k) {
            return has(k) ? plots[k] : NONE;
        }

        int kindOf(int k) {
            return has(k) ? kinds[k] : 0;
        }

        private boolean isIn(int set, int k) {
            return has(k) && (set >> k & 1) == 1;
        }

        /** Finds the best set: sets come by their sums, so of equal ones the first stays. */
        void choose(Town town, int budget) {
            bestSet = 0;
            bestCost = 0;
            bestSum = town.sumOfWorths();
            int sets = 1 << Math.min(told, MOST);
            for (int set = 1; set < sets; set++) {
                int cost = costOf(set);
                if (cost > budget || !canBe(set, town.board)) continue;
                int sum = sumAfter(set, town);
                if (sum > bestSum || sum == bestSum && cost < bestCost) {
                    bestSet = set;
                    bestCost = cost;
                    bestSum = sum;
                }
            }
        }

        private int costOf(int set) {
            int cost = 0;
            for (int k = 0; k < told; k++) {
                if (isIn(set, k)) cost += costs[k];
            }
            return cost;
        }

        private boolean canBe(int set, Board board) {
            long taken = 0L;
            for (int k = 0; k < told; k++) {
                if (!isIn(set, k)) continue;
                long its = bit(plotOf(k));
                if (!board.isFree(plotOf(k)) || (taken & its) != 0) return false;
                taken |= its;
            }
            return true;
        }

        /** The plans are tried on the board itself and taken back: they lie on plots that had neither road nor use. */
        private int sumAfter(int set, Town town) {
            for (int k = 0; k < told; k++) {
                if (isIn(set, k)) put(town.board, plotOf(k), kindOf(k));
            }
            int sum = town.sumOfWorths();
            for (int k = 0; k < told; k++) {
                if (isIn(set, k)) takeBack(town.board, plotOf(k));
            }
            return sum;
        }

        private static void put(Board board, int p, int kind) {
            if (kind == 0) {
                board.putGround(p, ROAD);
            } else {
                board.putUse(p, kind);
            }
        }

        private static void takeBack(Board board, int p) {
            board.putGround(p, LAND);
            board.putUse(p, 0);
        }
    }

    /** Notes of what became known when. */
    private static final class Notes {
        static final int MOST = 16;
        int told;
        private final int[] knownIn = new int[MOST];
        private final int[] years = new int[MOST];
        private final int[] plots = new int[MOST];
        private final int[] uses = new int[MOST];

        int add(int now, int year, int p, int u) {
            if (!within(told, 0, MOST - 1)) return FULL;
            knownIn[told] = now;
            years[told] = year;
            plots[told] = p;
            uses[told] = u;
            told++;
            return told - 1;
        }

        /** The latest note about a plot in a year that was known up to a year k, or -1. */
        int latest(int k, int year, int p) {
            for (int n = Math.min(told, MOST) - 1; n >= 0; n--) {
                if (knownIn[n] <= k && years[n] == year && plots[n] == p) return n;
            }
            return -1;
        }

        int useIn(int n) {
            return n >= 0 && n < told && n < MOST ? uses[n] : 0;
        }
    }

    /** Sheets: rows of cells of three lanes. */
    private static final class Sheets {
        static final int MOST = 4, CELLS = 128;
        static final int BYTES = 0, SHORTS = 1, INTS = 2;
        static final int NULL_FAULT = 1, INDEX_FAULT = 2, CAST_FAULT = 3, SIZE_FAULT = 4;
        private static final int NOTHING = -1;
        private final int[] sizes = new int[MOST];
        private final int[] lanes = new int[MOST];
        private final int[] cells = new int[MOST * CELLS];

        Sheets() {
            Arrays.fill(sizes, NOTHING);
        }

        int sizeOf(int k) {
            return within(k, 0, MOST - 1) ? sizes[k] : NOTHING;
        }

        boolean isNothing(int k) {
            return sizeOf(k) == NOTHING;
        }

        int laneOf(int k) {
            return within(k, 0, MOST - 1) ? lanes[k] : NOTHING;
        }

        void make(int k, int lane, int n) {
            if (!within(k, 0, MOST - 1) || !within(n, 0, CELLS)) return;
            lanes[k] = lane;
            sizes[k] = n;
            for (int i = 0; i < n; i++) cells[k * CELLS + i] = 0;
        }

        boolean hasCell(int k, int i) {
            return i >= 0 && i < sizeOf(k);
        }

        int cell(int k, int i) {
            return hasCell(k, i) ? cells[k * CELLS + i] : 0;
        }

        void put(int k, int i, int v) {
            if (!hasCell(k, i)) return;
            switch (laneOf(k)) {
                case BYTES:
                    cells[k * CELLS + i] = (byte) v;
                    break;
                case SHORTS:
                    cells[k * CELLS + i] = (short) v;
                    break;
                default:
                    cells[k * CELLS + i] = v;
                    break;
            }
        }
    }
}
