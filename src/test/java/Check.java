import java.util.function.Supplier;
import java.util.function.ToIntFunction;

/** What the tests of the promises share: calls are compared with the answers that are due. */
final class Check {
    static final int BAD = -1, STATE = -2, FULL = -3, NONE = -4, SPENT = -6;
    static final int BAD_WORTH = -1000000;
    private static int made = 0, wrong = 0;

    private Check() {
    }

    static void due(String call, long got, long want) {
        made++;
        if (got == want) return;
        wrong++;
        System.out.println(call + " answered " + got + ", due is " + want);
    }

    /** Puts a text on the tape, in place of what was there. */
    static void tape(GrownTown x, String text) {
        due("end(0) answers a length", x.end(0) >= 0 ? 1 : 0, 1);
        for (int i = 0; i < text.length(); i += 8) {
            long v = 0;
            for (int j = i; j < i + 8; j++) v = v << 8 | (j < text.length() ? text.charAt(j) : 'Z');
            x.feed(v);
        }
        x.end(text.length());
        due("bytes of " + text, x.count(11), text.length());
    }

    /** Tells laws that have no fault. */
    static void laws(GrownTown x, String text) {
        tape(x, text);
        long told = text.chars().filter(c -> c == ';').count();
        due("laws() of " + text, x.laws(), told);
        due("fault() of " + text, x.fault(), 0);
        due("the tape behind " + text, x.count(11), 0);
    }

    /** Tells laws that have a fault. */
    static void faulty(GrownTown x, String text, int fault, int place) {
        int had = x.count(2);
        tape(x, text);
        due("laws() of " + text, x.laws(), -10 - place);
        due("fault() of " + text, x.fault(), fault);
        due("the tape behind " + text, x.count(11), 0);
        due("the laws that stay behind " + text, x.count(2), had);
    }

    /** Acts until there are 60. */
    static void fillActs(GrownTown x) {
        for (int i = x.count(6); i < 60; i++) due("height(0, 0)", x.height(0, 0) >= 0 ? 1 : 0, 1);
        due("count(6)", x.count(6), 60);
    }

    /** A call that is refused: all that can be seen of the town then is as if the call had not been made. */
    static void refused(String call, Supplier<GrownTown> begun, ToIntFunction<GrownTown> does, int want) {
        for (int view = 0; view < Towns.VIEWS; view++) {
            GrownTown town = begun.get();
            due(call, does.applyAsInt(town), want);
            boolean same = Towns.view(view, town).equals(Towns.view(view, begun.get()));
            due(call + " changes nothing, as view " + view + " shows", same ? 1 : 0, 1);
        }
    }

    static void finish(String name) {
        if (wrong > 0) {
            System.out.println(name + ": " + wrong + " of " + made + " answers are wrong");
            System.exit(1);
        }
        System.out.println(name + ": " + made + " answers are as due");
    }
}
