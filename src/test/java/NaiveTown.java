import java.util.ArrayList;
import java.util.Arrays;
import java.util.HashMap;
import java.util.HashSet;
import java.util.List;
import java.util.Map;
import java.util.Set;
import java.util.function.Consumer;
import java.util.regex.Matcher;
import java.util.regex.Pattern;

/** The document once more, word by word and in other ways than the program: what both answer is compared. */
final class NaiveTown {
    static final int BAD = -1, STATE = -2, FULL = -3, NONE = -4, SPENT = -6;

    record Law(String act, int from, int use, String thing, int[] n) {}

    static final class Seeker {
        int use, purse, taste, coming, plot = NONE, bid = 0, got = NONE;
        boolean left;
    }

    record Act(int year, Consumer<NaiveTown> what) {}

    record Plan(int p, int kind, int cost) {}

    record Note(int known, int year, int p, int u) {}

    int w, h;
    int[] ground, height, use;
    List<Law> laws;
    List<Seeker> seekers;
    List<Act> acts;
    List<int[]> remembered;
    List<int[]> figures;
    int chest;
    List<List<Integer>> trams;
    List<int[]> trips;
    List<Plan> plans;
    List<Note> notes;
    StringBuilder tape = new StringBuilder();
    int fault;
    Object[] sheets = new Object[4];
    int leftOut = -1;

    NaiveTown() {
        fresh(4, 4);
    }

    void fresh(int w, int h) {
        this.w = w;
        this.h = h;
        ground = new int[w * h];
        height = new int[w * h];
        use = new int[w * h];
        laws = new ArrayList<>();
        seekers = new ArrayList<>();
        acts = new ArrayList<>();
        remembered = new ArrayList<>();
        figures = new ArrayList<>();
        chest = 0;
        trams = new ArrayList<>();
        trips = new ArrayList<>();
        plans = new ArrayList<>();
        notes = new ArrayList<>();
    }

    int now() {
        return remembered.size();
    }

    boolean noPlot(int p) {
        return p < 0 || p >= w * h;
    }

    boolean noUse(int u) {
        return u < 1 || u > 3;
    }

    int far(int p, int q) {
        return Math.abs(p / w - q / w) + Math.abs(p % w - q % w);
    }

    boolean actsFull() {
        return acts.size() >= 60;
    }

    void did(Consumer<NaiveTown> what) {
        acts.add(new Act(now(), what));
    }

    int board(int w, int h) {
        if (w < 1 || w > 8 || h < 1 || h > 8) return BAD;
        fresh(w, h);
        return 1;
    }

    int ground(int p, int g) {
        if (noPlot(p) || g < 0 || g > 2) return BAD;
        if (use[p] != 0) return STATE;
        if (actsFull()) return FULL;
        did(t -> t.ground(p, g));
        int was = ground[p];
        ground[p] = g;
        return was;
    }

    int height(int p, int v) {
        if (noPlot(p) || v < 0 || v > 9) return BAD;
        if (actsFull()) return FULL;
        did(t -> t.height(p, v));
        int was = height[p];
        height[p] = v;
        return was;
    }

    int use(int p, int u) {
        if (noPlot(p) || u < 0 || u > 3) return BAD;
        if (ground[p] != 0 && u != 0) return STATE;
        if (actsFull()) return FULL;
        did(t -> t.use(p, u));
        int was = use[p];
        use[p] = u;
        for (Seeker s : seekers) {
            if (s.plot == p) {
                s.plot = NONE;
                s.left = true;
            }
        }
        return was;
    }

    int plot(int p, int what) {
        if (noPlot(p)) return BAD;
        if (what == 0) return ground[p];
        if (what == 1) return height[p];
        if (what == 2) return use[p];
        if (what != 3) return BAD;
        for (int s = 0; s < seekers.size(); s++) if (seekers.get(s).plot == p) return s;
        return NONE;
    }

    // laws

    int feed(long v) {
        if (tape.length() + 8 > 320) return FULL;
        for (int i = 7; i >= 0; i--) tape.append((char) ((v >> (8 * i)) & 0xff));
        return tape.length();
    }

    int end(int n) {
        if (n < 0 || n > tape.length()) return BAD;
        int had = tape.length();
        tape.setLength(n);
        return had;
    }

    static final class Faulty extends RuntimeException {
        private static final long serialVersionUID = 1L;
        final int why, place;

        Faulty(int why, int place) {
            this.why = why;
            this.place = place;
        }
    }

    /** Reads tokens on demand. */
    static final class Reader {
        static final Set<String> NAMES = new HashSet<>(Arrays.asList(
            "zone", "wish", "tax", "cap", "leave", "from", "home", "work", "shop", "water", "road"));
        static final Pattern TOKEN = Pattern.compile("[a-z]+|-?[0-9]+|;|-");
        final String text;
        int place;
        String token;
        int start;

        Reader(String text) {
            this.text = text;
        }

        void read() {
            while (place < text.length() && text.charAt(place) == ' ') place++;
            start = place;
            token = "";
            if (place == text.length()) return;
            Matcher m = TOKEN.matcher(text).region(place, text.length());
            if (!m.lookingAt()) throw new Faulty(1, start);
            token = m.group();
            place = m.end();
            boolean name = Character.isLetter(token.charAt(0));
            if (name && !NAMES.contains(token)) throw new Faulty(1, start);
            if (!name && !token.equals(";") && !token.matches("-?[0-9]{1,3}")) throw new Faulty(1, start);
        }

        int number(int low, int high) {
            read();
            if (!token.matches("-?[0-9]+")) throw new Faulty(2, start);
            int v = Integer.parseInt(token);
            if (v < low || v > high) throw new Faulty(3, start);
            return v;
        }

        String one(String... of) {
            read();
            if (!Arrays.asList(of).contains(token)) throw new Faulty(2, start);
            return token;
        }
    }

    static int useNumber(String name) {
        return Arrays.asList("", "home", "work", "shop").indexOf(name);
    }

    static List<Law> parse(String text) {
        List<Law> laws = new ArrayList<>();
        Reader r = new Reader(text);
        while (true) {
            r.read();
            if (r.token.isEmpty()) return laws;
            if (!Arrays.asList("from", "zone", "wish", "tax", "cap", "leave").contains(r.token)) throw new Faulty(2, r.start);
            if (laws.size() == 12) throw new Faulty(4, r.start);
            int from = 0;
            String act = r.token;
            if (act.equals("from")) {
                from = r.number(0, 99);
                act = r.one("zone", "wish", "tax", "cap", "leave");
            }
            int use = useNumber(r.one("home", "work", "shop"));
            String thing = "";
            int[] n;
            if (act.equals("zone")) {
                n = new int[4];
                n[0] = r.number(0, 7);
                n[1] = r.number(0, 7);
                n[2] = r.number(n[0], 7);
                n[3] = r.number(n[1], 7);
            } else if (act.equals("wish")) {
                thing = r.one("home", "work", "shop", "water", "road");
                n = new int[] {r.number(1, 14), r.number(-99, 99)};
            } else {
                for (Law l : laws) {
                    if (l.act.equals(act) && l.use == use && l.from == from) throw new Faulty(5, r.start);
                }
                n = new int[] {r.number(0, act.equals("tax") ? 100 : act.equals("cap") ? 64 : 999)};
            }
            r.one(";");
            laws.add(new Law(act, from, use, thing, n));
        }
    }

    int laws() {
        if (actsFull()) return FULL;
        String text = tape.toString();
        tape.setLength(0);
        try {
            laws = parse(text);
            fault = 0;
        } catch (Faulty f) {
            fault = f.why;
            return -10 - f.place;
        }
        int told = laws.size();
        List<Law> all = new ArrayList<>(laws);
        did(t -> {
            t.laws = new ArrayList<>(all);
            if (t.leftOut < all.size()) t.laws.remove(t.leftOut);
        });
        return told;
    }

    int fault() {
        return fault;
    }

    boolean holds(Law law) {
        if (law.from > now()) return false;
        if (law.act.equals("zone") || law.act.equals("wish")) return true;
        return laws.stream().filter(l -> l.act.equals(law.act) && l.use == law.use && l.from <= now())
            .mapToInt(Law::from).max().getAsInt() == law.from;
    }

    int number(String act, int u, int none) {
        for (Law l : laws) if (l.act.equals(act) && l.use == u && holds(l)) return l.n[0];
        return none;
    }

    int law(int k, int what) {
        if (k < 0 || k >= laws.size() || what < 0 || what > 3) return BAD;
        Law l = laws.get(k);
        if (what == 0) return Arrays.asList("zone", "wish", "tax", "cap", "leave").indexOf(l.act);
        if (what == 1) return l.from;
        if (what == 2) return l.use;
        return holds(l) ? 1 : 0;
    }

    int adds(int p, int u, Law l) {
        if (!l.act.equals("wish") || l.use != u || !holds(l)) return 0;
        int n = 0;
        for (int q = 0; q < w * h; q++) {
            if (q == p || far(p, q) > l.n[0]) continue;
            boolean is = l.thing.equals("water") ? ground[q] == 1
                : l.thing.equals("road") ? ground[q] == 2 : use[q] == useNumber(l.thing);
            if (is) n++;
        }
        return n * l.n[1];
    }

    int worthOf(int p, int u) {
        int sum = 10;
        for (Law l : laws) sum += adds(p, u, l);
        return sum;
    }

    int worth(int p, int u) {
        return noPlot(p) || noUse(u) ? -1000000 : worthOf(p, u);
    }

    int cause(int p, int u, int k) {
        if (noPlot(p) || noUse(u) || k < 0 || k >= laws.size()) return -1000000;
        return adds(p, u, laws.get(k));
    }

    boolean mayBe(int p, int u) {
        if (ground[p] != 0 || use[p] != 0) return false;
        boolean in = false, inOwn = false;
        for (Law l : laws) {
            if (!l.act.equals("zone") || !holds(l)) continue;
            int x = p % w, y = p / w;
            if (x < l.n[0] || y < l.n[1] || x > l.n[2] || y > l.n[3]) continue;
            in = true;
            if (l.use == u) inOwn = true;
        }
        if (in && !inOwn) return false;
        return uses(u) < number("cap", u, 1000);
    }

    int uses(int u) {
        return (int) Arrays.stream(use).filter(v -> v == u).count();
    }

    int may(int p, int u) {
        if (noPlot(p) || noUse(u)) return BAD;
        return mayBe(p, u) ? 1 : 0;
    }

    // seekers, years

    int seeker(int u, int purse, int taste, int year) {
        if (noUse(u) || purse < 1 || purse > 999 || taste < -9 || taste > 9 || year < now() || year > 99) return BAD;
        if (seekers.size() >= 20 || actsFull()) return FULL;
        did(t -> t.seeker(u, purse, taste, year));
        Seeker s = new Seeker();
        s.use = u;
        s.purse = purse;
        s.taste = taste;
        s.coming = year;
        seekers.add(s);
        return seekers.size() - 1;
    }

    int told(int s, int what) {
        if (s < 0 || s >= seekers.size() || what < 0 || what > 7) return -100;
        Seeker k = seekers.get(s);
        return new int[] {k.use, k.purse, k.taste, k.coming, k.plot, k.left ? 1 : 0, k.bid, k.got}[what];
    }

    boolean waits(Seeker s) {
        return s.coming <= now() && s.plot == NONE && !s.left;
    }

    int value(Seeker s, int p) {
        return worthOf(p, s.use) + s.taste * height[p];
    }

    int bid(Seeker s, int p) {
        return Math.min(value(s, p), s.purse);
    }

    /** Who is matched to which plot: a plot drops all but the best of those who ask at once, until none is dropped. */
    Map<Seeker, Integer> settled() {
        Map<Seeker, List<Integer>> wanted = new HashMap<>();
        for (Seeker s : seekers) {
            if (!waits(s)) continue;
            List<Integer> list = new ArrayList<>();
            for (int p = 0; p < w * h; p++) if (mayBe(p, s.use) && value(s, p) > 0) list.add(p);
            list.sort((a, b) -> value(s, b) - value(s, a));
            wanted.put(s, list);
        }
        while (true) {
            Map<Integer, List<Seeker>> asked = new HashMap<>();
            for (Seeker s : seekers) {
                if (wanted.containsKey(s) && !wanted.get(s).isEmpty()) {
                    asked.computeIfAbsent(wanted.get(s).get(0), p -> new ArrayList<>()).add(s);
                }
            }
            boolean dropped = false;
            for (Map.Entry<Integer, List<Seeker>> e : asked.entrySet()) {
                int p = e.getKey();
                int most = e.getValue().stream().mapToInt(s -> bid(s, p)).max().getAsInt();
                Seeker best = e.getValue().stream().filter(s -> bid(s, p) == most).findFirst().get();
                for (Seeker s : e.getValue()) {
                    if (s == best) continue;
                    wanted.get(s).remove(0);
                    dropped = true;
                }
            }
            if (dropped) continue;
            Map<Seeker, Integer> got = new HashMap<>();
            asked.forEach((p, list) -> got.put(list.get(0), p));
            return got;
        }
    }

    int would(int s) {
        if (s < 0 || s >= seekers.size()) return BAD;
        if (!waits(seekers.get(s))) return STATE;
        return settled().getOrDefault(seekers.get(s), NONE);
    }

    int year() {
        if (now() == 24) return FULL;
        Map<Seeker, Integer> got = settled();
        Map<Seeker, Integer> bids = new HashMap<>();
        got.forEach((s, p) -> bids.put(s, bid(s, p)));
        got.forEach((s, p) -> {
            s.plot = p;
            s.bid = bids.get(s);
            s.got = now();
            use[p] = s.use;
        });
        int taxes = 0;
        List<Seeker> leaving = new ArrayList<>();
        for (Seeker s : seekers) {
            if (s.plot == NONE) continue;
            int worth = worthOf(s.plot, s.use);
            double due = Math.floor(worth * number("tax", s.use, 0) / 100.0);
            if (due > 0) taxes += (int) due;
            if (worth < number("leave", s.use, Integer.MIN_VALUE)) leaving.add(s);
        }
        chest += taxes;
        for (Seeker s : leaving) {
            use[s.plot] = 0;
            s.plot = NONE;
            s.left = true;
        }
        figures.add(new int[] {got.size(), leaving.size(), taxes, w * h - uses(0)});
        remembered.add(use.clone());
        return got.size();
    }

    boolean noYear(int y) {
        return y < 0 || y >= now();
    }

    int was(int y, int p) {
        return noYear(y) || noPlot(p) ? BAD : remembered.get(y)[p];
    }

    int went(int y, int what) {
        return noYear(y) || what < 0 || what > 3 ? BAD : figures.get(y)[what];
    }

    NaiveTown anew(int k) {
        NaiveTown t = new NaiveTown();
        t.board(w, h);
        t.leftOut = k;
        for (int y = 0; y < now(); y++) {
            for (Act a : acts) if (a.year == y) a.what.accept(t);
            t.year();
        }
        return t;
    }

    int without(int k) {
        if (k < 0 || k > 11) return BAD;
        NaiveTown t = anew(k);
        for (int y = 0; y < now(); y++) if (!Arrays.equals(remembered.get(y), t.remembered.get(y))) return y;
        return NONE;
    }

    int withoutMore(int k) {
        if (k < 0 || k > 11) return -1000;
        if (now() == 0) return 0;
        return anew(k).figures.get(now() - 1)[3] - figures.get(now() - 1)[3];
    }

    // ways

    int tram(int p, int q) {
        if (noPlot(p) || noPlot(q) || p == q || ground[p] == 1 || ground[q] == 1) return BAD;
        if (trams.size() == 4) return FULL;
        trams.add(new ArrayList<>(Arrays.asList(p, q)));
        return trams.size() - 1;
    }

    int stop(int t, int p) {
        if (t < 0 || t >= trams.size() || noPlot(p) || ground[p] == 1) return BAD;
        List<Integer> stops = trams.get(t);
        if (stops.get(stops.size() - 1) == p) return BAD;
        if (stops.size() == 6) return FULL;
        stops.add(p);
        return stops.size();
    }

    /** A move between places: a place is a plot, or "t/i" aboard; what a move adds to the plots, or -1. */
    record Move(int to, int takes, int adds) {}

    /** Others on the step between two plots. */
    interface Crowd {
        int others(int p, int q);
    }

    List<List<Move>> moves(boolean byTram, Crowd crowd) {
        List<List<Move>> all = new ArrayList<>();
        for (int i = 0; i < 64 + 24; i++) all.add(new ArrayList<>());
        for (int p = 0; p < w * h; p++) {
            for (int q = 0; q < w * h; q++) {
                if (far(p, q) != 1 || ground[p] == 1 || ground[q] == 1) continue;
                int takes = (ground[p] == 2 && ground[q] == 2 ? 1 : 3) + Math.abs(height[p] - height[q]);
                all.get(p).add(new Move(q, takes + 2 * crowd.others(p, q), q));
            }
        }
        for (int t = 0; byTram && t < trams.size(); t++) {
            List<Integer> stops = trams.get(t);
            for (int i = 0; i < stops.size(); i++) {
                int place = 64 + 6 * t + i;
                int p = stops.get(i);
                if (ground[p] != 1) {
                    all.get(p).add(new Move(place, 2, -1));
                    all.get(place).add(new Move(p, 0, -1));
                }
                if (i > 0) all.get(place).add(new Move(place - 1, 1, stops.get(i - 1)));
                if (i + 1 < stops.size()) all.get(place).add(new Move(place + 1, 1, stops.get(i + 1)));
            }
        }
        return all;
    }

    static final int NEVER = 1 << 20;

    int[] timesTo(int q, List<List<Move>> moves) {
        int[] time = new int[88];
        Arrays.fill(time, NEVER);
        time[q] = 0;
        boolean shorter = true;
        while (shorter) {
            shorter = false;
            for (int i = 0; i < 88; i++) {
                for (Move m : moves.get(i)) {
                    if (time[m.to] + m.takes < time[i]) {
                        time[i] = time[m.to] + m.takes;
                        shorter = true;
                    }
                }
            }
        }
        return time;
    }

    static int compare(List<Integer> a, List<Integer> b) {
        for (int i = 0; i < Math.min(a.size(), b.size()); i++) {
            if (!a.get(i).equals(b.get(i))) return a.get(i) - b.get(i);
        }
        return a.size() - b.size();
    }

    /** What comes first of all that goes on from a place to the end in least time. */
    List<Integer> best(int place, int q, List<List<Move>> moves, int[] time, Map<Integer, List<Integer>> found) {
        if (place == q) return new ArrayList<>();
        if (found.containsKey(place)) return found.get(place);
        List<Integer> best = null;
        for (Move m : moves.get(place)) {
            if (time[m.to] + m.takes != time[place]) continue;
            List<Integer> list = new ArrayList<>();
            if (m.adds >= 0) list.add(m.adds);
            list.addAll(best(m.to, q, moves, time, found));
            if (best == null || compare(list, best) < 0) best = list;
        }
        found.put(place, best);
        return best;
    }

    /** The way and its time, or null. */
    List<Integer> theWay(int p, int q, boolean byTram, Crowd crowd, int[] itsTime) {
        List<Integer> way = new ArrayList<>(List.of(p));
        itsTime[0] = 0;
        if (p == q) return way;
        if (ground[p] == 1 || ground[q] == 1) return null;
        List<List<Move>> moves = moves(byTram, crowd);
        int[] time = timesTo(q, moves);
        if (time[p] == NEVER) return null;
        itsTime[0] = time[p];
        way.addAll(best(p, q, moves, time, new HashMap<>()));
        return way;
    }

    int time(int p, int q) {
        if (noPlot(p) || noPlot(q)) return BAD;
        int[] time = new int[1];
        return theWay(p, q, true, (a, b) -> 0, time) == null ? NONE : time[0];
    }

    int way(int p, int q, int i) {
        if (noPlot(p) || noPlot(q) || i < 0) return BAD;
        List<Integer> way = theWay(p, q, true, (a, b) -> 0, new int[1]);
        return way == null || i >= way.size() ? NONE : way.get(i);
    }

    int trip(int p, int q) {
        if (noPlot(p) || noPlot(q) || p == q) return BAD;
        if (theWay(p, q, false, (a, b) -> 0, new int[1]) == null) return STATE;
        if (trips.size() == 8) return FULL;
        trips.add(new int[] {p, q});
        return trips.size() - 1;
    }

    static boolean goes(List<Integer> way, int p, int q) {
        for (int i = 1; i < way.size(); i++) {
            int a = way.get(i - 1), b = way.get(i);
            if (a == p && b == q || a == q && b == p) return true;
        }
        return false;
    }

    Crowd without(List<List<Integer>> goes, int t) {
        return (p, q) -> {
            int n = 0;
            for (int o = 0; o < goes.size(); o++) if (o != t && goes.get(o) != null && goes(goes.get(o), p, q)) n++;
            return n;
        };
    }

    int takes(List<Integer> way, Crowd crowd) {
        int sum = 0;
        for (int i = 1; i < way.size(); i++) {
            int p = way.get(i - 1), q = way.get(i);
            sum += (ground[p] == 2 && ground[q] == 2 ? 1 : 3) + Math.abs(height[p] - height[q]) + 2 * crowd.others(p, q);
        }
        return sum;
    }

    /** How many rounds, or SPENT; the ways as they are then, null where one is left out. */
    int balanced(List<List<Integer>> goes) {
        for (int[] t : trips) goes.add(theWay(t[0], t[1], false, (a, b) -> 0, new int[1]));
        for (int round = 1; round <= 40; round++) {
            boolean other = false;
            for (int t = 0; t < trips.size(); t++) {
                if (goes.get(t) == null) continue;
                Crowd crowd = without(goes, t);
                int[] time = new int[1];
                List<Integer> way = theWay(trips.get(t)[0], trips.get(t)[1], false, crowd, time);
                if (time[0] < takes(goes.get(t), crowd)) {
                    goes.set(t, way);
                    other = true;
                }
            }
            if (!other) return round;
        }
        return SPENT;
    }

    int balance() {
        return balanced(new ArrayList<>());
    }

    int trips(int t, int what) {
        if (t < 0 || t >= trips.size() || what < 0 || what > 2 && what < 10) return BAD;
        List<List<Integer>> goes = new ArrayList<>();
        int rounds = balanced(goes);
        List<Integer> way = goes.get(t);
        if (way == null) return STATE;
        if (rounds == SPENT) return SPENT;
        if (what == 0) return takes(way, without(goes, t));
        if (what == 1) return way.size();
        int[] time = new int[1];
        theWay(trips.get(t)[0], trips.get(t)[1], false, (a, b) -> 0, time);
        if (what == 2) return time[0];
        return what - 10 < way.size() ? way.get(what - 10) : BAD;
    }

    // plans

    boolean free(int p) {
        return ground[p] == 0 && use[p] == 0;
    }

    int plan(int p, int kind, int cost) {
        if (noPlot(p) || kind < 0 || kind > 3 || cost < 1 || cost > 99 || !free(p)) return BAD;
        if (plans.size() == 6) return FULL;
        plans.add(new Plan(p, kind, cost));
        return plans.size() - 1;
    }

    int sum() {
        int sum = 0;
        for (int p = 0; p < w * h; p++) if (use[p] != 0) sum += worthOf(p, use[p]);
        return sum;
    }

    int chosen(int budget, int what) {
        if (budget < 0 || budget > 999 || what < 0 || what > 3) return -1000000;
        if (what == 3) return sum();
        int[] best = null;
        int[] ground0 = ground, use0 = use;
        for (int set = (1 << plans.size()) - 1; set >= 0; set--) {
            ground = ground0.clone();
            use = use0.clone();
            int cost = 0;
            boolean can = true;
            for (int k = 0; k < plans.size(); k++) {
                if ((set & (1 << k)) == 0) continue;
                Plan plan = plans.get(k);
                cost += plan.cost;
                can &= free(plan.p);
                if (plan.kind == 0) ground[plan.p] = 2;
                else use[plan.p] = plan.kind;
            }
            if (!can || cost > budget) continue;
            int[] here = {set, cost, sum()};
            if (best == null || here[2] > best[2] || here[2] == best[2] && (cost < best[1] || cost == best[1] && set < best[0])) best = here;
        }
        ground = ground0;
        use = use0;
        return best[what];
    }

    int build(int k) {
        if (k < 0 || k >= plans.size()) return BAD;
        Plan plan = plans.get(k);
        if (!free(plan.p)) return STATE;
        int answer = plan.kind == 0 ? ground(plan.p, 2) : use(plan.p, plan.kind);
        return answer == FULL ? FULL : 1;
    }

    // notes

    int note(int year, int p, int u) {
        if (noYear(year) || noPlot(p) || u < 0 || u > 3) return BAD;
        if (notes.size() == 16) return FULL;
        notes.add(new Note(now(), year, p, u));
        return notes.size() - 1;
    }

    int known(int k, int year, int p) {
        if (k < 0 || k > 99 || noYear(year) || noPlot(p)) return BAD;
        if (k < year) return STATE;
        int use = remembered.get(year)[p];
        for (Note n : notes) if (n.year == year && n.p == p && n.known <= k) use = n.u;
        return use;
    }

    // sheets

    int sheet(int k, int lane, int n) {
        if (k < 0 || k > 3 || lane < 0 || lane > 2 || n > 128) return BAD;
        try {
            sheets[k] = lane == 0 ? new byte[n] : lane == 1 ? new short[n] : new int[n];
            return 1;
        } catch (NegativeArraySizeException e) {
            return -14;
        }
    }

    int lay(int k, int i, int v) {
        if (k < 0 || k > 3) return BAD;
        Object o = sheets[k];
        try {
            if (o instanceof byte[] b) b[i] = (byte) v;
            else if (o instanceof short[] s) s[i] = (short) v;
            else ((int[]) o)[i] = v;
            return 1;
        } catch (NullPointerException e) {
            return -11;
        } catch (ArrayIndexOutOfBoundsException e) {
            return -12;
        }
    }

    int draw(int k, int lane, int f) {
        if (k < 0 || k > 3 || lane < 0 || lane > 2) return BAD;
        int[] cell = new int[2 * w * h];
        try {
            Object o = sheets[k];
            if (o == null) throw new NullPointerException();
            byte[] b = lane == 0 ? (byte[]) o : null;
            short[] s = lane == 1 ? (short[]) o : null;
            int[] v = lane == 2 ? (int[]) o : null;
            for (int i = 0; i < cell.length; i++) {
                cell[i] = lane == 0 ? b[f + i] : lane == 1 ? s[f + i] : v[f + i];
                if (cell[i] < 0 || cell[i] > (i % 2 == 0 ? 2 : 9)) return -100 - i;
            }
        } catch (NullPointerException e) {
            return -11;
        } catch (ArrayIndexOutOfBoundsException e) {
            return -12;
        } catch (ClassCastException e) {
            return -13;
        }
        int others = 0, more = 0;
        for (int p = 0; p < w * h; p++) {
            boolean g = cell[2 * p] != ground[p], v = cell[2 * p + 1] != height[p];
            if (g && use[p] != 0) return STATE;
            if (g || v) others++;
            more += (g ? 1 : 0) + (v ? 1 : 0);
        }
        if (acts.size() + more > 60) return FULL;
        for (int p = 0; p < w * h; p++) {
            if (cell[2 * p] != ground[p]) ground(p, cell[2 * p]);
            if (cell[2 * p + 1] != height[p]) height(p, cell[2 * p + 1]);
        }
        return others;
    }

    int count(int what) {
        switch (what) {
            case 0: return w * h;
            case 1: return w * h - uses(0);
            case 2: return laws.size();
            case 3: return seekers.size();
            case 4: return now();
            case 5: return chest;
            case 6: return acts.size();
            case 7: return trams.size();
            case 8: return trips.size();
            case 9: return plans.size();
            case 10: return notes.size();
            case 11: return tape.length();
            case 12: return sheets[0] == null ? NONE : java.lang.reflect.Array.getLength(sheets[0]);
            default: return what >= 20 && what <= 23 ? uses(what - 20) : BAD;
        }
    }
}
