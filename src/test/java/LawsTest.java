/** Promises 7 to 14: feed, end, laws, fault, law, worth, cause, may. */
public final class LawsTest {
    private static void due(String call, long got, long want) {
        Check.due(call, got, want);
    }

    private static void promise7() {
        GrownTown x = new GrownTown();
        for (int i = 1; i <= 40; i++) due("feed " + i, x.feed(0x2020202020202020L), 8 * i);
        due("feed beyond 320", x.feed(0L), Check.FULL);
        due("it changes nothing", x.count(11), 320);
        due("end(313)", x.end(313), 320);
        due("feed beyond 320 by one", x.feed(0L), Check.FULL);
        due("end(312)", x.end(312), 313);
        due("feed to 320", x.feed(0x746178206f6d653bL), 320);
        due("blanks, then 'tax ome;'", x.laws(), -10 - 316);
        due("its fault", x.fault(), 1);
        x.feed(0x7461782068656D65L);
        due("the highest byte is the first", x.laws(), -14);
        x.feed(-1L);
        due("byte 255", x.laws(), -10);
        due("byte 255 is no token", x.fault(), 1);
    }

    private static void promise8() {
        GrownTown x = new GrownTown();
        due("end(0) of nothing", x.end(0), 0);
        due("end(1) of nothing", x.end(1), Check.BAD);
        x.feed(0x746178206f6d653bL);
        due("end(-1)", x.end(-1), Check.BAD);
        due("end(9)", x.end(9), Check.BAD);
        due("end(8)", x.end(8), 8);
        due("end(3)", x.end(3), 8);
        due("count(11)", x.count(11), 3);
        due("feed behind it", x.feed(0x2020686f6d652033L), 11);
        x.feed(0x3b3b3b3b3b3b3b3bL);
        due("end(12)", x.end(12), 19);
        due("'tax  home 3;'", x.laws(), 1);
    }

    private static void promise9() {
        GrownTown x = new GrownTown();
        due("no laws", x.laws(), 0);
        due("that is an act", x.count(6), 1);
        Check.laws(x, "zone home0 0-0 007;");
        Check.laws(x, "  from 3cap shop64;leave work 999 ; tax home100;wish work road 1-99;   ");
        due("four laws", x.count(2), 4);
        Check.laws(x, "zone work 7 7 7 7;cap shop 0;tax work 0;wish home water 1 99;leave shop 0;");
        Check.laws(x, "from 3cap shop64;leave work 999 ; tax home100;wish work road 1-99;   ");
        due("acts", x.count(6), 5);
        faultsOfTokens(x);
        faultsOfPlaces(x);
        faultsOfBounds(x);
        due("faults are no acts", x.count(6), 5);
        due("the laws that were told stay", x.law(1, 0), 4);
        faultsOfMany(new GrownTown());
        faultsOfTwice(new GrownTown());
        full();
        longest();
    }

    private static void faultsOfTokens(GrownTown x) {
        Check.faulty(x, "Zone", 1, 0);
        Check.faulty(x, "zones home", 1, 0);
        Check.faulty(x, "zonehome 0 0 0 0;", 1, 0);
        Check.faulty(x, "zone homework 1", 1, 5);
        Check.faulty(x, "tax home 0100;", 1, 9);
        Check.faulty(x, "tax home -1000;", 1, 9);
        Check.faulty(x, "tax home - 1;", 1, 9);
        Check.faulty(x, "tax home --1;", 1, 9);
        Check.faulty(x, "tax home +1;", 1, 9);
        Check.faulty(x, "tax home 1:", 1, 10);
        Check.faulty(x, "tax home 1;\n", 1, 11);
        Check.faulty(x, "tax home 10-", 1, 11);
        Check.faulty(x, "tax home -", 1, 9);
    }

    private static void faultsOfPlaces(GrownTown x) {
        Check.faulty(x, ";", 2, 0);
        Check.faulty(x, "  7", 2, 2);
        Check.faulty(x, "home", 2, 0);
        Check.faulty(x, "tax", 2, 3);
        Check.faulty(x, "tax  ", 2, 5);
        Check.faulty(x, "tax water 3;", 2, 4);
        Check.faulty(x, "tax home;", 2, 8);
        Check.faulty(x, "tax home home;", 2, 9);
        Check.faulty(x, "tax home 3", 2, 10);
        Check.faulty(x, "tax home 3 tax", 2, 11);
        Check.faulty(x, "tax home 3 4;", 2, 11);
        Check.faulty(x, "tax home 3-4;", 2, 10);
        Check.faulty(x, "tax home 3;;", 2, 11);
        Check.faulty(x, "from;", 2, 4);
        Check.faulty(x, "from 3 from 4 tax home 1;", 2, 7);
        Check.faulty(x, "from 3;", 2, 6);
        Check.faulty(x, "from 3 home", 2, 7);
        Check.faulty(x, "wish home 3 3;", 2, 10);
        Check.faulty(x, "wish water home 3 3;", 2, 5);
        Check.faulty(x, "wish home zone 3 3;", 2, 10);
        Check.faulty(x, "wish home shop 3;", 2, 16);
        Check.faulty(x, "zone home 1 2 3;", 2, 15);
        Check.faulty(x, "zone home 1 2 3 4 5;", 2, 18);
    }

    private static void faultsOfBounds(GrownTown x) {
        Check.faulty(x, "tax home 101;", 3, 9);
        Check.faulty(x, "tax home -1;", 3, 9);
        Check.faulty(x, "cap home 65;", 3, 9);
        Check.faulty(x, "cap home -1 x", 3, 9);
        Check.faulty(x, "leave home -1;", 3, 11);
        Check.faulty(x, "from 100 tax home 1;", 3, 5);
        Check.faulty(x, "from -1 tax home 1;", 3, 5);
        Check.faulty(x, "wish home shop 0 1;", 3, 15);
        Check.faulty(x, "wish home shop 15 1;", 3, 15);
        Check.faulty(x, "wish home shop 14 100;", 3, 18);
        Check.faulty(x, "wish home shop 14-100;", 3, 17);
        Check.faulty(x, "zone home 8 0 8 0;", 3, 10);
        Check.faulty(x, "zone home 0 -1 8 0;", 3, 12);
        Check.faulty(x, "zone home 3 4 2 5;", 3, 14);
        Check.faulty(x, "zone home 3 4 3 3;", 3, 16);
        Check.faulty(x, "zone home 3 4 8 5;", 3, 14);
        Check.faulty(x, "zone home 3 4 7 8;", 3, 16);
    }

    private static void faultsOfMany(GrownTown x) {
        StringBuilder twelve = new StringBuilder();
        for (int i = 0; i < 12; i++) twelve.append("wish home shop 1 ").append(i % 10).append(';');
        Check.laws(x, twelve.toString());
        due("twelve laws", x.count(2), 12);
        int length = twelve.length();
        Check.faulty(x, twelve + " tax home 3;", 4, length + 1);
        Check.faulty(x, twelve + "from 300", 4, length);
        Check.faulty(x, twelve + ";", 2, length);
        Check.faulty(x, twelve + "home", 2, length);
        Check.faulty(x, twelve + "?", 1, length);
        Check.laws(x, twelve + "   ");
    }

    private static void faultsOfTwice(GrownTown x) {
        Check.faulty(x, "tax home 3;tax home 3;", 5, 15);
        Check.faulty(x, "cap home 3;from 0 cap home x", 5, 22);
        Check.faulty(x, "from 7 leave shop 3;tax home 1; from 7leave shop 3;", 5, 44);
        Check.laws(x, "tax home 3;tax work 3;cap home 3;leave home 3;from 1 tax home 3;");
        Check.laws(x, "wish home shop 1 1;wish home shop 1 1;zone home 1 1 1 1;zone home 1 1 1 1;");
    }

    /** A whole tape of one sign, and of tokens of one byte. */
    private static void longest() {
        String[] signs = {";", " ", "1", "a", "-", "?"};
        int[] faults = {2, 0, 1, 1, 1, 1};
        for (int i = 0; i < signs.length; i++) {
            GrownTown x = new GrownTown();
            Check.tape(x, signs[i].repeat(320));
            due("320 times " + signs[i], x.laws(), i == 1 ? 0 : -10);
            due("its fault", x.fault(), faults[i]);
        }
        GrownTown x = new GrownTown();
        Check.faulty(x, "tax home 1" + " ".repeat(310), 2, 320);
    }

    private static void full() {
        GrownTown x = new GrownTown();
        Check.faulty(x, "7", 2, 0);
        Check.fillActs(x);
        Check.tape(x, "?");
        due("laws: full ahead of faults", x.laws(), Check.FULL);
        due("the tape stays", x.count(11), 1);
        due("fault() of the one before", x.fault(), 2);
    }

    private static void promise10() {
        GrownTown x = new GrownTown();
        due("fault() at first", x.fault(), 0);
        String[] faulty = {"?", "1", "from 100", "tax home 1;tax home 1;"};
        int[] due = {1, 2, 3, 5};
        for (int i = 0; i < faulty.length; i++) {
            Check.tape(x, faulty[i]);
            due("fault() stands until laws()", x.fault(), i == 0 ? 0 : due[i - 1]);
            x.laws();
            due("fault() of " + faulty[i], x.fault(), due[i]);
        }
        Check.laws(x, "tax home 1;");
        due("fault() of none", x.fault(), 0);
    }

    private static void promise11() {
        GrownTown x = new GrownTown();
        Check.laws(x, "zone home 0 0 1 1;wish work water 1 1;tax shop 1;cap home 2;leave work 3;from 2 tax shop 5;from 1 wish shop road 1 1;");
        int[] acts = {0, 1, 2, 3, 4, 2, 1};
        int[] uses = {1, 2, 3, 1, 2, 3, 3};
        for (int k = 0; k < 7; k++) {
            due("law(" + k + ", 0)", x.law(k, 0), acts[k]);
            due("law(" + k + ", 1)", x.law(k, 1), k == 5 ? 2 : k == 6 ? 1 : 0);
            due("law(" + k + ", 2)", x.law(k, 2), uses[k]);
            due("law(" + k + ", 3)", x.law(k, 3), k < 5 ? 1 : 0);
        }
        x.year();
        due("from 1 holds in year 1", x.law(6, 3), 1);
        due("the first tax holds yet", x.law(2, 3), 1);
        due("the second not yet", x.law(5, 3), 0);
        x.year();
        due("the first tax holds no more", x.law(2, 3), 0);
        due("the second holds", x.law(5, 3), 1);
        due("others hold on", x.law(0, 3) + x.law(3, 3) + x.law(4, 3), 3);
        int[][] bad = {{-1, 0}, {7, 0}, {0, -1}, {0, 4}, {Integer.MAX_VALUE, 0}};
        for (int[] b : bad) due("law(" + b[0] + ", " + b[1] + ")", x.law(b[0], b[1]), Check.BAD);
    }

    private static void promise12() {
        GrownTown x = new GrownTown();
        due("worth without laws", x.worth(5, 2), 10);
        x.board(5, 5);
        Check.laws(x, "wish home work 2 7;wish home home 1 -3;wish home water 14 1;wish home road 3 20;wish shop shop 1 50;from 1 wish home shop 1 99;");
        x.use(12, 1);
        x.use(11, 2);
        x.use(2, 2);
        x.use(0, 2);
        x.use(17, 1);
        x.ground(24, 1);
        x.ground(20, 1);
        x.ground(4, 2);
        x.ground(23, 2);
        x.use(13, 3);
        due("worth(12, 1): 2 works, a home, 2 waters, a road", x.worth(12, 1), 10 + 14 - 3 + 2 + 20);
        due("worth(12, 2): no wish", x.worth(12, 2), 10);
        due("worth(13, 3): not itself", x.worth(13, 3), 10);
        due("worth(12, 3): its use now or not", x.worth(12, 3), 60);
        due("worth of water", x.worth(24, 1), 10 + 1 + 20);
        x.year();
        due("worth(12, 1) in year 1", x.worth(12, 1), 43 + 99);
        int[][] bad = {{-1, 1}, {25, 1}, {0, 0}, {0, 4}, {0, -1}};
        for (int[] b : bad) due("worth(" + b[0] + ", " + b[1] + ")", x.worth(b[0], b[1]), Check.BAD_WORTH);
        x.board(1, 8);
        Check.laws(x, "wish home road 7 1;wish work road 6 1;");
        for (int p = 0; p < 8; p++) x.ground(p, 2);
        due("7 far in a column", x.worth(0, 1), 17);
        due("6 far in a column", x.worth(0, 2), 16);
        x.board(8, 8);
        Check.laws(x, "wish home work 14 -99;wish work home 13 99;");
        x.use(63, 2);
        due("14 far", x.worth(0, 1), -89);
        x.use(63, 1);
        due("not 14 far", x.worth(0, 2), 10);
    }

    private static void promise13() {
        GrownTown x = new GrownTown();
        Check.laws(x, "wish home work 2 7;tax home 3;from 1 wish home work 1-5;wish shop work 3 1;");
        x.use(1, 2);
        x.use(2, 2);
        due("cause(0, 1, 0)", x.cause(0, 1, 0), 14);
        due("cause(0, 1, 1): no wish", x.cause(0, 1, 1), 0);
        due("cause(0, 1, 2): not yet", x.cause(0, 1, 2), 0);
        due("cause(0, 1, 3): of another use", x.cause(0, 1, 3), 0);
        due("cause(0, 3, 3)", x.cause(0, 3, 3), 2);
        x.year();
        due("cause(0, 1, 2)", x.cause(0, 1, 2), -5);
        int[][] bad = {{-1, 1, 0}, {16, 1, 0}, {0, 0, 0}, {0, 4, 0}, {0, 1, -1}, {0, 1, 4}};
        for (int[] b : bad) due("cause", x.cause(b[0], b[1], b[2]), Check.BAD_WORTH);
    }

    private static void promise14() {
        GrownTown x = new GrownTown();
        due("may at first", x.may(0, 1) + x.may(15, 3), 2);
        x.ground(0, 1);
        x.ground(1, 2);
        x.use(2, 2);
        due("water may not", x.may(0, 1), 0);
        due("a road may not", x.may(1, 1), 0);
        due("a used plot may not", x.may(2, 2), 0);
        Check.laws(x, "zone home 0 1 1 2;zone shop 1 2 7 7;cap work 2;from 1 cap work 1;from 1 zone work 0 1 0 1;cap shop 0;");
        due("in a zone of its own", x.may(4, 1), 1);
        due("in a zone of another", x.may(4, 2), 0);
        due("in two zones: one's", x.may(9, 1), 1);
        due("in two zones: the other's, capped", x.may(9, 3), 0);
        due("in two zones: none's", x.may(9, 2), 0);
        due("the corner of a zone", x.may(8, 2) + x.may(5, 2), 0);
        due("beside the zones", x.may(6, 2) + x.may(12, 2) + x.may(3, 1), 3);
        due("below the cap", x.may(3, 2), 1);
        x.use(12, 2);
        due("at the cap", x.may(3, 2), 0);
        x.use(12, 0);
        x.year();
        due("at the cap that holds now", x.may(3, 2), 0);
        due("in a zone that holds now", x.may(4, 2), 0);
        x.use(2, 0);
        due("in a zone of its own that holds now", x.may(4, 2), 1);
        int[][] bad = {{-1, 1}, {16, 1}, {0, 0}, {0, 4}};
        for (int[] b : bad) due("may(" + b[0] + ", " + b[1] + ")", x.may(b[0], b[1]), Check.BAD);
    }

    public static void main(String[] args) {
        promise7();
        promise8();
        promise9();
        promise10();
        promise11();
        promise12();
        promise13();
        promise14();
        Check.finish("LawsTest");
    }
}
