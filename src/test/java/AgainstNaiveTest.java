import java.util.ArrayList;
import java.util.List;
import java.util.Random;

/** Many runs of at most 512 calls, made by a fixed seed, on the program and on the naive town: no answer may differ, none throw. */
public final class AgainstNaiveTest {
    private static final int RUNS = 1500, CALLS = 512, MOST_AT_ONCE = 70, COUNTS = 27;
    private static final String[] WORDS = {"home", "work", "shop", "water", "road", "zone", "wish", "tax", "cap", "leave",
        "from", ";", "-", "7", "-3", "100", "x", "A", "0000", "99", " "};
    private final Random random;
    private final GrownTown real = new GrownTown();
    private final NaiveTown naive = new NaiveTown();
    private final List<String> log = new ArrayList<>();
    private final int style;

    private AgainstNaiveTest(int seed) {
        random = new Random(seed);
        style = seed % 6;
    }

    private int upTo(int n) {
        return random.nextInt(n + 1);
    }

    /** A number from low to high, seldom one beyond. */
    private int in(int low, int high) {
        int odd = random.nextInt(60);
        if (odd == 0) return low - 1;
        if (odd == 1) return high + 1;
        if (odd == 2) return new int[] {Integer.MIN_VALUE, Integer.MAX_VALUE, -1, 1000}[upTo(3)];
        return low + random.nextInt(Math.max(1, high - low + 1));
    }

    private int plot() {
        return in(0, naive.w * naive.h - 1);
    }

    private String use() {
        return WORDS[upTo(2)];
    }

    private String oneLaw() {
        String from = random.nextInt(3) == 0 ? "from " + in(0, random.nextBoolean() ? 9 : 99) + " " : "";
        switch (upTo(6)) {
            case 0:
                int x = upTo(5);
                int y = upTo(5);
                return from + "zone " + use() + " " + x + " " + y + " " + in(x, 7) + " " + in(y, 7) + ";";
            case 1: return from + "tax " + use() + " " + in(0, 100) + ";";
            case 2: return from + "cap " + use() + " " + upTo(random.nextBoolean() ? 5 : 64) + ";";
            case 3: return from + "leave " + use() + " " + upTo(random.nextBoolean() ? 30 : 999) + " ; ";
            default: return from + "wish " + use() + " " + WORDS[upTo(4)] + " " + in(1, random.nextBoolean() ? 3 : 14)
                + (random.nextBoolean() ? " " : "-") + in(0, random.nextBoolean() ? 9 : 99) + ";";
        }
    }

    private String text() {
        StringBuilder text = new StringBuilder();
        int n = upTo(random.nextInt(8) == 0 ? 14 : 7);
        for (int i = 0; i < n; i++) text.append(oneLaw());
        if (random.nextInt(3) == 0) {
            int at = upTo(text.length());
            String word = WORDS[upTo(WORDS.length - 1)];
            if (random.nextBoolean()) text.insert(at, word);
            else if (random.nextBoolean()) text.replace(at, Math.min(text.length(), at + 1 + upTo(6)), word);
            else if (random.nextBoolean()) text.setLength(at);
            else text.append((char) upTo(255));
        }
        if (text.length() > 312) text.setLength(312);
        return text.toString();
    }

    /** Laws without a fault that all stand on the tape, most of them from the first years on. */
    private String goodText() {
        StringBuilder text = new StringBuilder();
        List<String> told = new ArrayList<>();
        for (int i = 0; i < 12 && text.length() < 280; i++) {
            int from = random.nextInt(3) == 0 ? upTo(6) : 0;
            String use = use();
            String act = WORDS[5 + upTo(4)];
            String once = act + use + from;
            if (!act.equals("zone") && !act.equals("wish") && told.contains(once)) continue;
            told.add(once);
            if (from > 0) text.append("from ").append(from);
            text.append(act).append(' ').append(use).append(' ');
            switch (act) {
                case "zone": text.append(upTo(3)).append(' ').append(upTo(3)).append(' ').append(4 + upTo(3)).append(' ').append(4 + upTo(3)); break;
                case "wish": text.append(WORDS[upTo(4)]).append(1 + upTo(4)).append(random.nextInt(3) == 0 ? "-" : " ").append(upTo(12)); break;
                case "tax": text.append(upTo(100)); break;
                case "cap": text.append(1 + upTo(6)); break;
                default: text.append(upTo(25)); break;
            }
            text.append(';');
        }
        return text.toString();
    }

    /** A town of several years with its laws and seekers, looked at anew without each law. */
    private void growTown() {
        tell(goodText());
        for (int year = 0; year < 5; year++) {
            for (int i = upTo(year == 0 ? 8 : 3); i >= 0; i--) {
                seeker(1 + upTo(2));
                if (random.nextInt(3) == 0) sameSmall(upTo(2));
            }
            for (int s = upTo(2); s < naive.seekers.size(); s += 3) same("would " + s, real.would(s), naive.would(s));
            same("year", real.year(), naive.year());
            if (random.nextInt(5) == 0) tell(goodText());
        }
        for (int k = 0; k < 12; k++) {
            same("without " + k, real.without(k), naive.without(k));
            same("withoutMore " + k, real.withoutMore(k), naive.withoutMore(k));
        }
    }

    private void same(String call, int got, int due) {
        log.add(call + " = " + due);
        if (got == due) return;
        log.forEach(System.out::println);
        throw new IllegalStateException(call + " answered " + got + ", due is " + due);
    }

    private void tell(String text) {
        for (int i = 0; i < text.length(); i += 8) {
            long v = 0;
            for (int j = i; j < i + 8; j++) v = v << 8 | (j < text.length() ? text.charAt(j) : random.nextInt(256));
            same("feed " + v, real.feed(v), naive.feed(v));
        }
        same("end", real.end(text.length()), naive.end(text.length()));
        same("laws '" + text + "'", real.laws(), naive.laws());
        same("fault", real.fault(), naive.fault);
    }

    private void fillSheet() {
        int k = in(0, 3);
        int lane = in(0, 2);
        int n = random.nextBoolean() ? 2 * naive.w * naive.h + upTo(2) : in(0, 128);
        same("sheet " + k + " " + lane + " " + n, real.sheet(k, lane, n), naive.sheet(k, lane, n));
        for (int i = 0; i < Math.min(n, 12); i++) {
            int cell = random.nextInt(Math.max(1, n));
            int v = in(0, random.nextInt(3) == 0 ? 9 : 1) + (random.nextInt(9) == 0 ? 65536 : 0);
            same("lay " + k + " " + cell + " " + v, real.lay(k, cell, v), naive.lay(k, cell, v));
        }
        int f = random.nextInt(5) == 0 ? in(-2, 20) : 0;
        same("draw " + k + " " + lane + " " + f, real.draw(k, lane, f), naive.draw(k, lane, f));
    }

    private void sameSmall(int k) {
        int p = plot();
        int q = plot();
        int u = in(1, 3);
        int s = in(0, naive.seekers.size());
        int y = in(0, naive.now());
        int what;
        switch (k) {
            case 0: what = in(0, 2); same("ground " + p + " " + what, real.ground(p, what), naive.ground(p, what)); break;
            case 1: what = in(0, 9); same("height " + p + " " + what, real.height(p, what), naive.height(p, what)); break;
            case 2: what = in(0, 3); same("use " + p + " " + what, real.use(p, what), naive.use(p, what)); break;
            case 3: what = in(0, 3); same("plot " + p + " " + what, real.plot(p, what), naive.plot(p, what)); break;
            case 4: what = in(0, naive.laws.size()); same("law " + what + " " + u, real.law(what, u), naive.law(what, u)); break;
            case 5: same("worth " + p + " " + u, real.worth(p, u), naive.worth(p, u)); break;
            case 6: what = in(0, naive.laws.size()); same("cause " + p + " " + u + " " + what, real.cause(p, u, what), naive.cause(p, u, what)); break;
            case 7: same("may " + p + " " + u, real.may(p, u), naive.may(p, u)); break;
            case 8: case 9: case 10: seeker(u); break;
            case 11: what = in(0, 7); same("told " + s + " " + what, real.told(s, what), naive.told(s, what)); break;
            case 12: case 13: same("would " + s, real.would(s), naive.would(s)); break;
            case 14: case 15: same("year", real.year(), naive.year()); break;
            case 16: same("was " + y + " " + p, real.was(y, p), naive.was(y, p)); break;
            case 17: what = in(0, 3); same("went " + y + " " + what, real.went(y, what), naive.went(y, what)); break;
            case 18: what = in(0, 11); same("without " + what, real.without(what), naive.without(what)); break;
            case 19: what = in(0, 11); same("withoutMore " + what, real.withoutMore(what), naive.withoutMore(what)); break;
            case 20: same("tram " + p + " " + q, real.tram(p, q), naive.tram(p, q)); break;
            case 21: what = in(0, naive.trams.size() - 1); same("stop " + what + " " + p, real.stop(what, p), naive.stop(what, p)); break;
            case 22: same("time " + p + " " + q, real.time(p, q), naive.time(p, q)); break;
            case 23: wholeWay(p, q); break;
            case 24: same("trip " + p + " " + q, real.trip(p, q), naive.trip(p, q)); break;
            case 25: same("balance", real.balance(), naive.balance()); break;
            case 26: oneTrip(); break;
            case 27: what = in(0, 3); plan(p, what); break;
            case 28: what = in(0, 3); chosen(what); break;
            case 29: what = in(0, naive.plans.size() - 1); same("build " + what, real.build(what), naive.build(what)); break;
            case 30: what = in(0, 3); same("note " + y + " " + p + " " + what, real.note(y, p, what), naive.note(y, p, what)); break;
            case 31: what = in(0, 25); same("known " + what + " " + y + " " + p, real.known(what, y, p), naive.known(what, y, p)); break;
            default: what = in(0, 24); same("count " + what, real.count(what), naive.count(what)); break;
        }
    }

    private void seeker(int u) {
        int purse = in(1, random.nextBoolean() ? 40 : 999);
        int taste = in(-9, 9);
        int year = naive.now() + in(0, random.nextBoolean() ? 0 : 4);
        same("seeker " + u + " " + purse + " " + taste + " " + year, real.seeker(u, purse, taste, year), naive.seeker(u, purse, taste, year));
    }

    private void wholeWay(int p, int q) {
        for (int i = -1, got = 0; i < 65 && (i <= 0 || got >= 0); i++) {
            got = real.way(p, q, i);
            same("way " + p + " " + q + " " + i, got, naive.way(p, q, i));
        }
    }

    private void oneTrip() {
        int t = in(0, naive.trips.size());
        for (int what : new int[] {0, 1, 2, in(3, 9), 10, 11 + upTo(4), 15 + upTo(60), Integer.MAX_VALUE}) {
            same("trips " + t + " " + what, real.trips(t, what), naive.trips(t, what));
        }
    }

    private void plan(int p, int kind) {
        int cost = in(1, random.nextBoolean() ? 9 : 99);
        same("plan " + p + " " + kind + " " + cost, real.plan(p, kind, cost), naive.plan(p, kind, cost));
    }

    private void chosen(int what) {
        int budget = in(0, random.nextBoolean() ? 30 : 999);
        same("chosen " + budget + " " + what, real.chosen(budget, what), naive.chosen(budget, what));
    }

    /** Each style dwells on one part of the document, so that limits and long histories are met. */
    private int[] partOfStyle() {
        switch (style) {
            case 1: return new int[] {2, 8, 9, 11, 12, 13, 14, 15, 16, 17, 18, 19};
            case 2: return new int[] {0, 1, 20, 21, 22, 23, 22, 23};
            case 3: return new int[] {0, 1, 24, 24, 25, 26};
            case 4: return new int[] {2, 5, 6, 7, 27, 28, 28, 29};
            case 5: return new int[] {14, 16, 30, 31, 32};
            default: return new int[] {32};
        }
    }

    private void run() {
        int[] part = partOfStyle();
        int w = 1 + upTo(7);
        int h = 1 + upTo(7);
        same("board", real.board(w, h), naive.board(w, h));
        if (style == 3 && random.nextBoolean()) flood();
        if (style == 1 || style == 4 && random.nextBoolean()) growTown();
        while (log.size() < CALLS - MOST_AT_ONCE - COUNTS) {
            int kind = random.nextInt(100);
            if (kind < 3) tell(text());
            else if (kind < 4) fillSheet();
            else if (random.nextInt(700) == 0) same("board", real.board(1 + w / 2, h), naive.board(1 + w / 2, h));
            else if (kind < 40 && style != 0) sameSmall(part[random.nextInt(part.length)]);
            else if (style == 0 || kind < 50) sameSmall(random.nextInt(33));
            else if (style == 1 && kind < 60) seeker(1 + upTo(2));
            else sameSmall(part[random.nextInt(part.length)]);
        }
        for (int what = -1; what < COUNTS - 1; what++) same("count " + what, real.count(what), naive.count(what));
        if (log.size() > CALLS) throw new IllegalStateException(log.size() + " calls: nothing is promised of the last ones");
    }

    /** Many plots become roads or water in a few calls, so that trips have narrow ways. */
    private void flood() {
        for (int i = 0; i < 25; i++) {
            int p = random.nextInt(naive.w * naive.h);
            int g = 1 + upTo(1);
            same("ground " + p + " " + g, real.ground(p, g), naive.ground(p, g));
        }
    }

    public static void main(String[] args) {
        int runs = args.length > 0 ? Integer.parseInt(args[0]) : RUNS;
        for (int seed = 0; seed < runs; seed++) {
            AgainstNaiveTest test = new AgainstNaiveTest(seed);
            try {
                test.run();
            } catch (RuntimeException e) {
                System.out.println("seed " + seed);
                e.printStackTrace(System.out);
                System.exit(1);
            }
        }
        System.out.println(runs + " runs are the same");
    }
}
