import java.lang.reflect.InvocationTargetException;
import java.lang.reflect.Method;
import java.util.ArrayList;
import java.util.Arrays;
import java.util.Comparator;
import java.util.List;
import java.util.Random;

/**
 * No call of any run throws or fails to end: runs of 512 calls whose arguments are the least numbers, the greatest and
 * those beside the document's bounds, from fixed seeds. The naive town is called too, and answers the same.
 */
public final class WildTest {
    private static final int RUNS = 400, CALLS = 512, SECONDS = 300;
    private static final int[] EDGES = {Integer.MIN_VALUE, Integer.MIN_VALUE + 1, -1000001, -1000000, -1000, -129, -128, -100, -99, -10,
        -9, -6, -4, -3, -2, -1, 14, 15, 16, 19, 20, 21, 23, 24, 25, 60, 63, 64, 65, 99, 100, 127, 128, 129, 255, 256, 319, 320, 321,
        998, 999, 1000, 32767, 32768, 65535, 65536, Integer.MAX_VALUE - 128, Integer.MAX_VALUE - 1, Integer.MAX_VALUE};
    private static final String[] TEXTS = {"tax home", "from", "zone home 0 0 7 7;", "wish home shop 14 99;", "wish shop home 1-99;",
        "cap work 1;", "cap home 64;", "leave shop 999;", "leave home 10;", "from 1", "from 99", "tax work 100;", "?", "-", ";", "0000"};

    private final Random random;
    private final GrownTown real = new GrownTown();
    private final NaiveTown naive = new NaiveTown();
    private final List<Method> methods = new ArrayList<>();
    private final StringBuilder log = new StringBuilder();
    private int calls;

    private WildTest(int seed) {
        random = new Random(seed);
        for (Method m : GrownTown.class.getMethods()) {
            if (m.getDeclaringClass() == GrownTown.class) methods.add(m);
        }
        methods.sort(Comparator.comparing(Method::getName));
    }

    private int wild() {
        switch (random.nextInt(8)) {
            case 0: return EDGES[random.nextInt(EDGES.length)];
            case 1: return random.nextInt();
            default: return random.nextInt(random.nextBoolean() ? 4 : 13);
        }
    }

    private long wildLong() {
        switch (random.nextInt(6)) {
            case 0: return Long.MIN_VALUE;
            case 1: return Long.MAX_VALUE;
            case 2: return 0x2020202020202020L;
            default: return random.nextLong();
        }
    }

    private void call(Method m, Object... args) {
        calls++;
        log.append(m.getName()).append(Arrays.toString(args)).append('\n');
        try {
            Object due = NaiveTown.class.getDeclaredMethod(m.getName(), m.getParameterTypes()).invoke(naive, args);
            Object got = m.invoke(real, args);
            if (!got.equals(due)) throw new IllegalStateException("answered " + got + ", due is " + due);
        } catch (InvocationTargetException e) {
            throw new IllegalStateException(e.getCause());
        } catch (ReflectiveOperationException e) {
            throw new IllegalStateException(e);
        }
    }

    private Method method(String name) {
        return methods.stream().filter(m -> m.getName().equals(name)).findFirst().get();
    }

    private void wildCall() {
        Method m = methods.get(random.nextInt(methods.size()));
        // a board begins all anew, so it is seldom called
        if (m.getName().equals("board") && random.nextInt(12) > 0) return;
        Object[] args = new Object[m.getParameterCount()];
        for (int i = 0; i < args.length; i++) args[i] = m.getParameterTypes()[i] == long.class ? (Object) wildLong() : (Object) wild();
        call(m, args);
    }

    private void tell() {
        StringBuilder text = new StringBuilder();
        for (int i = random.nextInt(5); i > 0; i--) text.append(TEXTS[random.nextInt(TEXTS.length)]).append(' ');
        if (random.nextBoolean()) call(method("end"), 0);
        for (int i = 0; i < text.length(); i += 8) {
            long v = 0;
            for (int j = i; j < i + 8; j++) v = v << 8 | (j < text.length() ? text.charAt(j) : ' ');
            call(method("feed"), v);
        }
        call(method("laws"));
        call(method("fault"));
    }

    private void run() {
        call(method("board"), 1 + random.nextInt(8), 1 + random.nextInt(8));
        while (calls < CALLS - 20) {
            if (random.nextInt(30) == 0) {
                tell();
            } else {
                wildCall();
            }
        }
        while (calls < CALLS) call(method("count"), wild());
    }

    /** A run that does not end fails too. */
    private static void watch() {
        Thread watch = new Thread(() -> {
            try {
                Thread.sleep(SECONDS * 1000L);
            } catch (InterruptedException e) {
                return;
            }
            System.out.println("a run does not end");
            System.exit(1);
        });
        watch.setDaemon(true);
        watch.start();
    }

    public static void main(String[] args) {
        watch();
        int runs = args.length > 0 ? Integer.parseInt(args[0]) : RUNS;
        for (int seed = 0; seed < runs; seed++) {
            WildTest test = new WildTest(seed);
            try {
                test.run();
            } catch (IllegalStateException e) {
                System.out.println("seed " + seed + "\n" + test.log);
                e.printStackTrace(System.out);
                System.exit(1);
            }
        }
        System.out.println(runs + " wild runs are the same");
    }
}
