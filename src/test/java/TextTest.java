import java.util.ArrayList;
import java.util.Arrays;
import java.util.List;

/** The tape and the text of laws: each byte, each place in each law, each bound of a number, each fault and their order. */
public final class TextTest {
    private static final List<String> ACTS = List.of("zone", "wish", "tax", "cap", "leave");
    private static final List<String> USES = List.of("home", "work", "shop");
    private static final List<String> THINGS = List.of("home", "work", "shop", "water", "road");
    private static final List<String> NUMBERS = List.of("5", "-5");
    /** Tokens that can't stand where none of their kind is asked, and what is no token. */
    private static final List<String> TOKENS = List.of("zone", "wish", "tax", "cap", "leave", "from", "home", "work", "shop",
        "water", "road", ";", "0", "5", "-5", "999");
    private static final List<String> NO_TOKENS = List.of("a", "zones", "zon", "hom", "homework", "Tax", "0000", "1234", "-0000",
        "-1234", "-", "--5", "?", ",", "\t", "\n", "\0", "\u007f", "\u0080", "\u00ff");

    /** A law told with all tokens that stand at a place: the first of them is the one it is told with. */
    private record Form(String act, List<List<String>> places) {}

    private static List<Form> forms() {
        List<Form> forms = new ArrayList<>();
        for (String act : ACTS) {
            List<List<String>> places = new ArrayList<>(List.of(List.of(act), USES));
            int numbers = act.equals("zone") ? 4 : act.equals("wish") ? 2 : 1;
            if (act.equals("wish")) places.add(THINGS);
            for (int i = 0; i < numbers; i++) places.add(NUMBERS);
            places.add(List.of(";"));
            forms.add(new Form(act, places));
            List<List<String>> later = new ArrayList<>(List.of(List.of("from"), NUMBERS));
            later.addAll(places);
            forms.add(new Form(act, later));
        }
        return forms;
    }

    private static boolean canStand(Form form, int i, String token) {
        boolean first = i == 0;
        boolean behindFrom = i == 2 && form.places.get(0).get(0).equals("from");
        if (first || behindFrom) return ACTS.contains(token) || first && token.equals("from");
        if (form.places.get(i) == NUMBERS) return token.charAt(0) == '-' || Character.isDigit(token.charAt(0));
        return form.places.get(i).contains(token);
    }

    private static String told(Form form, int tokens) {
        StringBuilder text = new StringBuilder();
        for (int i = 0; i < tokens; i++) text.append(form.places.get(i).get(0)).append(' ');
        return text.toString();
    }

    /** At each place of each law: what is no token is fault 1, a token that can't stand there fault 2, the end too. */
    private static void places() {
        GrownTown x = new GrownTown();
        for (Form form : forms()) {
            int all = form.places.size();
            Check.laws(x, told(form, all));
            for (int i = 0; i < all; i++) {
                String before = told(form, i);
                for (String token : TOKENS) {
                    x = new GrownTown();
                    if (!canStand(form, i, token)) Check.faulty(x, before + token + " ;", 2, before.length());
                }
                for (String token : NO_TOKENS) {
                    x = new GrownTown();
                    Check.faulty(x, before + token + " ;", 1, before.length());
                }
                if (i == 0) continue;
                Check.faulty(x, before, 2, before.length());
                Check.faulty(x, before.trim(), 2, before.length() - 1);
                Check.faulty(x, before + "    ", 2, before.length() + 4);
            }
        }
    }

    /** Each word of a use and of a thing is known for what it is. */
    private static void words() {
        GrownTown x = new GrownTown();
        x.ground(1, 1);
        x.ground(4, 2);
        x.ground(5, 2);
        for (String act : ACTS) {
            for (int u = 0; u < 3; u++) {
                String rest = act.equals("zone") ? "0 0 0 0" : act.equals("wish") ? "road 1 1" : "1";
                Check.laws(x, act + " " + USES.get(u) + " " + rest + ";");
                Check.due("act of " + act, x.law(0, 0), ACTS.indexOf(act));
                Check.due("use of " + act, x.law(0, 2), u + 1);
            }
        }
        x.use(0, 1);
        int[] used = {2, 2, 3, 3, 3};
        for (int i = 0; i < used.length; i++) x.use(8 + i, used[i]);
        int[] worths = {11, 12, 13, 11, 12};
        for (int i = 0; i < 5; i++) {
            Check.laws(x, "wish home " + THINGS.get(i) + " 14 1;");
            Check.due("worth by " + THINGS.get(i), x.worth(15, 1), worths[i]);
        }
    }

    /** A law with a number in place of #: from low to high, one less and one more is fault 3, at its place. */
    private static void bounds(String law, int low, int high) {
        int place = law.indexOf('#');
        for (int v : new int[] {low, high}) Check.laws(new GrownTown(), law.replace("#", String.valueOf(v)));
        for (int v : new int[] {low - 1, high + 1, -999, 999}) {
            boolean told = v >= -999 && v <= 999;
            if (told && (v < low || v > high)) Check.faulty(new GrownTown(), law.replace("#", String.valueOf(v)), 3, place);
        }
    }

    private static void bounds() {
        bounds("from # tax home 0;", 0, 99);
        bounds("zone home # 0 7 7;", 0, 7);
        bounds("zone home 0 # 7 7;", 0, 7);
        bounds("zone home 0 0 # 7;", 0, 7);
        bounds("zone home 0 0 7 #;", 0, 7);
        bounds("zone home 3 5 # 7;", 3, 7);
        bounds("zone home 3 5 7 #;", 5, 7);
        bounds("zone home 7 7 # 7;", 7, 7);
        bounds("zone home 7 7 7 #;", 7, 7);
        bounds("wish home work # 1;", 1, 14);
        bounds("wish home work 1 #;", -99, 99);
        bounds("tax home #;", 0, 100);
        bounds("cap home #;", 0, 64);
        bounds("leave home #;", 0, 999);
        Check.faulty(new GrownTown(), "leave home 1000;", 1, 11);
    }

    /** Numbers of one to three figures, with naughts ahead, and a - right ahead of them. */
    private static void numbers() {
        String[] ones = {"1", "01", "001"};
        for (String one : ones) {
            GrownTown x = new GrownTown();
            x.use(1, 2);
            Check.laws(x, "from " + one + " wish home work " + one + " -" + one + ";");
            Check.due("from " + one, x.law(0, 1), 1);
            x.year();
            Check.due("points -" + one, x.worth(0, 1), 9);
            Check.faulty(x, "leave home 0" + "001;", 1, 11);
        }
        Check.laws(new GrownTown(), "from -0 tax home -00;cap home -000;");
        Check.faulty(new GrownTown(), "wish home work 1 -0001;", 1, 17);
        Check.faulty(new GrownTown(), "wish home work 1 - 1;", 1, 17);
        Check.faulty(new GrownTown(), "wish home work 1 -a;", 1, 17);
        Check.faulty(new GrownTown(), "wish home work 1 -;", 1, 17);
        Check.faulty(new GrownTown(), "wish home work 1 -", 1, 17);
        Check.faulty(new GrownTown(), "wish home work 1--1;", 1, 16);
        Check.faulty(new GrownTown(), "wish home work 1 1-;", 1, 18);
        Check.faulty(new GrownTown(), "wish home work 1 +1;", 1, 17);
    }

    /** Blanks: none is needed but between two names, or ahead of a number without a - right behind another one. */
    private static void blanks() {
        GrownTown x = new GrownTown();
        Check.laws(x, "from2zone home0 1 2 3;from 3wish work road1-9;tax shop7;");
        Check.due("from 2", x.law(0, 1), 2);
        Check.due("from 3", x.law(1, 1), 3);
        Check.laws(x, "   from   2   zone   home   0   1   2   3   ;   tax   shop   7   ;   ");
        Check.laws(x, " ".repeat(309) + "tax home 0;");
        Check.laws(x, "tax home 0;" + " ".repeat(309));
        Check.laws(x, "tax home 0" + " ".repeat(309) + ";");
        Check.laws(x, "tax" + " ".repeat(309) + "home 0;");
        Check.faulty(x, "taxhome 7;", 1, 0);
        Check.faulty(x, "wish home workshop 1 1;", 1, 10);
        Check.faulty(x, "wish home work 11;", 2, 17);
        Check.faulty(x, "wish home work 1 1 1;", 2, 19);
        Check.faulty(x, "t ax home 7;", 1, 0);
        Check.faulty(x, "tax home 7 ; ;", 2, 13);
        Check.faulty(x, " ".repeat(309) + "tax home 7.", 1, 319);
        Check.faulty(x, " ".repeat(310) + "tax home 7", 2, 320);
    }

    /** Each byte alone, and between two tokens. */
    private static void bytes() {
        for (int b = 0; b < 256; b++) {
            char sign = (char) b;
            boolean name = sign >= 'a' && sign <= 'z';
            boolean token = sign == ';' || sign >= '0' && sign <= '9';
            GrownTown x = new GrownTown();
            if (sign == ' ') {
                Check.laws(x, " ");
                Check.laws(x, "tax home 1;");
                continue;
            }
            Check.faulty(x, String.valueOf(sign), token ? 2 : 1, 0);
            Check.faulty(x, "tax" + sign + "home 1;", token ? 2 : 1, name ? 0 : 3);
            Check.faulty(x, "tax home 1;  " + sign, token ? 2 : 1, 13);
        }
    }

    /** Eight bytes, the highest first: the least long, the greatest, and others. */
    private static void longs() {
        long[] longs = {Long.MIN_VALUE, Long.MAX_VALUE, 0L, -1L, 0x2020202020202080L, 0x202020202020207fL};
        int[] places = {0, 0, 0, 0, 7, 7};
        for (int i = 0; i < longs.length; i++) {
            GrownTown x = new GrownTown();
            Check.due("feed", x.feed(longs[i]), 8);
            Check.due("laws of " + longs[i], x.laws(), -10 - places[i]);
            Check.due("fault of " + longs[i], x.fault(), 1);
            Check.due("the tape", x.count(11), 0);
        }
        GrownTown x = new GrownTown();
        x.feed(0x6c6561766520686fL);
        x.feed(0x6d65203132333bffL);
        Check.due("end", x.end(15), 16);
        Check.due("leave home 123", x.laws(), 1);
        x.use(0, 1);
        Check.due("its act", x.law(0, 0), 4);
    }

    /** The fault that is met first as the text is read is told, whatever follows; a token is read when it is due. */
    private static void order() {
        Check.faulty(new GrownTown(), "tax home 101 ?", 3, 9);
        Check.faulty(new GrownTown(), "tax home 100 ?", 1, 13);
        Check.faulty(new GrownTown(), "tax home 100 100", 2, 13);
        Check.faulty(new GrownTown(), "from 100 ?", 3, 5);
        Check.faulty(new GrownTown(), "from 99 ?", 1, 8);
        Check.faulty(new GrownTown(), "from 99 from", 2, 8);
        Check.faulty(new GrownTown(), "tax tax ?", 2, 4);
        Check.faulty(new GrownTown(), "zone home 3 3 2 9;", 3, 14);
        Check.faulty(new GrownTown(), "zone home 3 3 3 2 ?", 3, 16);
        Check.faulty(new GrownTown(), "tax home 1;tax home 101;", 5, 15);
        Check.faulty(new GrownTown(), "tax home 1;tax home ?", 5, 15);
        Check.faulty(new GrownTown(), "tax home 1;tax home", 5, 15);
        Check.faulty(new GrownTown(), "tax home 1;tax ?", 1, 15);
        Check.faulty(new GrownTown(), "tax home 1;tax road", 2, 15);
        Check.faulty(new GrownTown(), "tax home 1;tax home 1 tax home 1;", 5, 15);
        Check.faulty(new GrownTown(), "? tax home 101;", 1, 0);
    }

    /** A tax, cap, leave of a use is told once from the same year; with another act, use or year it is another one. */
    private static void twice() {
        for (String act : List.of("tax", "cap", "leave")) {
            for (String use : USES) {
                String law = act + " " + use + " 7;";
                Check.faulty(new GrownTown(), law + act + " " + use + " 8;", 5, law.length() + act.length() + 1);
                Check.faulty(new GrownTown(), "from 0 " + law + law, 5, 7 + law.length() + act.length() + 1);
                Check.faulty(new GrownTown(), law + "from 0 " + law, 5, law.length() + 7 + act.length() + 1);
                Check.faulty(new GrownTown(), "from 99 " + law + law + "from 099 " + law, 5, 8 + 2 * law.length() + 9 + act.length() + 1);
                Check.laws(new GrownTown(), law + "from 1 " + law + "from 99 " + law);
                for (String other : USES) {
                    if (!other.equals(use)) Check.laws(new GrownTown(), law + act + " " + other + " 7;");
                }
                for (String other : List.of("tax", "cap", "leave")) {
                    if (!other.equals(act)) Check.laws(new GrownTown(), law + other + " " + use + " 7;");
                }
            }
        }
        Check.laws(new GrownTown(), "wish home shop 1 1;wish home shop 1 1;zone shop 0 0 1 1;zone shop 0 0 1 1;");
        GrownTown x = new GrownTown();
        Check.laws(x, "tax home 1;");
        Check.laws(x, "tax home 2;");
    }

    /** Twelve laws can be told; the thirteenth is a fault at its first token. */
    private static void twelve() {
        for (String act : List.of("zone home 0 0 0 0;", "wish home shop 1 1;")) {
            String twelve = act.repeat(12);
            Check.laws(new GrownTown(), act.repeat(11));
            Check.laws(new GrownTown(), twelve);
            int length = twelve.length();
            for (String first : ACTS) Check.faulty(new GrownTown(), twelve + " " + first, 4, length + 1);
            Check.faulty(new GrownTown(), twelve + "from", 4, length);
            Check.faulty(new GrownTown(), twelve + act, 4, length);
            Check.faulty(new GrownTown(), twelve + "from 100 ?", 4, length);
            for (String none : NO_TOKENS) Check.faulty(new GrownTown(), twelve + none, 1, length);
        }
        String eleven = "zone home 0 0 0 0;".repeat(11) + "tax home 1;";
        Check.laws(new GrownTown(), eleven);
        Check.faulty(new GrownTown(), eleven + "tax home 1;", 4, eleven.length());
        Check.faulty(new GrownTown(), "zone home 0 0 0 0;".repeat(10) + "tax home 1;tax home 1;", 5, 180 + 15);
    }

    /** A text with a fault leaves the laws that were told; one without takes their place, be it empty. */
    private static void inPlace() {
        GrownTown x = new GrownTown();
        Check.laws(x, "tax home 1;cap work 2;from 9 leave shop 3;");
        Check.faulty(x, "zone home 0 0 7 7;wish home shop 1 1;tax home 1;tax work 1;?", 1, 59);
        int[] acts = {2, 3, 4};
        int[] uses = {1, 2, 3};
        for (int k = 0; k < 3; k++) {
            Check.due("act", x.law(k, 0), acts[k]);
            Check.due("use", x.law(k, 2), uses[k]);
        }
        Check.due("from", x.law(2, 1), 9);
        Check.due("none behind", x.law(3, 0), Check.BAD);
        Check.laws(x, "wish work shop 1 1;");
        Check.due("one law alone", x.law(1, 0), Check.BAD);
        Check.due("a wish", x.law(0, 0), 1);
        Check.due("none of the old from", x.law(0, 1), 0);
        Check.laws(x, "");
        Check.due("no law", x.law(0, 0), Check.BAD);
        Check.due("acts", x.count(6), 3);
    }

    public static void main(String[] args) {
        places();
        words();
        bounds();
        numbers();
        blanks();
        bytes();
        longs();
        order();
        twice();
        twelve();
        inPlace();
        Check.finish("TextTest");
    }
}
