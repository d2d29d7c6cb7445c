/** Promises 6 and 8 to 15: what there is, and how days go by. */
public final class DaysTest {
    private static final int NONE = NineBoards.NONE;
    private static final int NOTHING = NineBoards.NOTHING;
    private static final String TWO = "lake spread 2 holds 30 has 20;"
        + "gate a plain boards 4 width 1;gate b leaks 3 boards 2 width 1;village v gate a;village w gate b;"
        + "thing v gate a from 6 to 7 days 0 to 1 worth 5;thing w gate b from 0 to 99 days 1 to 9 worth 2;"
        + "chapel 5 loss 3;bank 14 loss 4;rain 20 when day = 0;rain 2 when all;air level / 5 when all;";

    private DaysTest() {
    }

    public static void main(String[] args) {
        threeDays();
        wrongQuestions();
        kinds();
        waterByNumbers();
        peace();
        joined();
        spilt();
        chapelAndBank();
        airTakesWhatThereIs();
        thingsAtTheirEdges();
        withoutVillages();
        lastDay();
        rests();
        undone();
        undoneWithBoards();
        Checks.finish("DaysTest");
    }

    private static void has(NineBoards x, int... want) {
        for (int k = 0; k < want.length; k++) {
            Checks.same("has(" + k + ")", x.has(k), want[k]);
        }
    }

    private static void all(NineBoards x, int... want) {
        for (int k = 0; k < want.length; k++) {
            Checks.same("all(" + k + ")", x.all(k), want[k]);
        }
    }

    private static void village(NineBoards x, int v, int... want) {
        for (int k = 0; k < want.length; k++) {
            Checks.same("village(" + v + ", " + k + ")", x.village(v, k), want[k]);
        }
    }

    private static void gate(NineBoards x, int g, int... want) {
        for (int k = 0; k < want.length; k++) {
            Checks.same("gate(" + g + ", " + k + ")", x.gate(g, k), want[k]);
        }
    }

    private static void threeDays() {
        NineBoards x = Checks.lake(TWO);
        has(x, 2, 2, 2, 3, 0, 20, 10, 0, 0);
        gate(x, 0, 0, 4, 1, NONE, 6, 0);
        gate(x, 1, 1, 2, 1, NONE, 11, 0);
        village(x, 0, 0, 0, 0, 0, 7);
        village(x, 1, 1, 0, 0, 1, 7);
        Checks.same("DAY 0, rest", x.act(0), 10);
        has(x, 2, 2, 2, 3, 1, 21, 10, 0, 1);
        gate(x, 0, 0, 4, 1, NONE, 6, 6);
        gate(x, 1, 1, 2, 1, NONE, 11, 11);
        village(x, 0, 0, 5, 5, 1, 7);
        village(x, 1, 1, 0, 0, 0, 7);
        all(x, 20, 20, 0, 17, 2);
        Checks.same("DAY 1, lift", x.act(1), 2);
        has(x, 2, 2, 2, 3, 2, 5, 2, 1, 2);
        gate(x, 1, 1, 1, 1, NONE, 4, 12);
        village(x, 0, 0, 7, 2, 0, 5);
        village(x, 1, 1, -1, -1, 1, 5);
        Checks.same("no lift behind a lift", x.act(1), NONE);
        Checks.same("DAY 2, set", x.act(2), 1);
        has(x, 2, 2, 2, 3, 3, 3, 1, 2, 3);
        gate(x, 0, 0, 5, 1, NONE, 0, 0);
        village(x, 0, 0, 4, -3, 1, 3);
        village(x, 1, 1, -2, -1, 0, 3);
        Checks.same("stream(0)", x.stream(0), 12);
        Checks.same("stream(1)", x.stream(1), 27);
        all(x, 20, 24, 0, 39, 2);
        Checks.same("served(0)", x.served(0), 2);
        Checks.same("served(1)", x.served(1), 2);
    }

    private static void wrongQuestions() {
        NineBoards x = Checks.lake(TWO);
        int[] far = {-1, Integer.MIN_VALUE, Integer.MAX_VALUE};
        for (int n : far) {
            Checks.same("has", x.has(n), NONE);
            Checks.same("gate", x.gate(n, 0), NONE);
            Checks.same("gate", x.gate(0, n), NONE);
            Checks.same("stream", x.stream(n), NONE);
            Checks.same("all", x.all(n), NONE);
            Checks.same("village", x.village(n, 0), NOTHING);
            Checks.same("village", x.village(0, n), NOTHING);
            Checks.same("served", x.served(n), NONE);
            Checks.same("act", x.act(n), NONE);
            Checks.same("rest", x.rest(n), NONE);
        }
        Checks.same("has(9)", x.has(9), NONE);
        Checks.same("gate(2, 0)", x.gate(2, 0), NONE);
        Checks.same("gate(0, 6)", x.gate(0, 6), NONE);
        Checks.same("stream(2)", x.stream(2), NONE);
        Checks.same("all(5)", x.all(5), NONE);
        Checks.same("village(2, 0)", x.village(2, 0), NOTHING);
        Checks.same("village(0, 5)", x.village(0, 5), NOTHING);
        Checks.same("served(2)", x.served(2), NONE);
        Checks.same("act(3)", x.act(3), NONE);
        Checks.same("rest(0)", x.rest(0), NONE);
        Checks.same("rest(100)", x.rest(100), NONE);
        has(x, 2, 2, 2, 3, 0, 20, 10, 0, 0);
    }

    private static void kinds() {
        NineBoards x = Checks.lake("lake spread 1 holds 999 has 11;gate p plain boards 3 width 1;"
            + "gate l leaks 7 boards 12 width 2;gate m leaks 7 boards 0 width 1;gate s steps 4 boards 2 width 1;"
            + "gate f frozen 0 to 1 boards 3 width 9;rain 11 - water when all;");
        int[] flows = {8, 3, 0, 0, 0};
        for (int g = 0; g < 5; g++) {
            Checks.same("flow of " + g, x.gate(g, 4), flows[g]);
        }
        NineBoards y = Checks.lake("lake spread 10 holds 999 has 115;gate p plain boards 3 width 1;"
            + "gate l leaks 7 boards 12 width 2;gate m leaks 7 boards 0 width 1;gate n leaks 7 boards 9 width 2;"
            + "gate s steps 4 boards 2 width 2;gate f frozen 1 to 2 boards 9 width 3;rain 115-water when all;");
        int[] by = {8, 7, 11, 11, 16, 6};
        int[] kind = {0, 1, 1, 1, 2, 3};
        for (int day = 0; day < 4; day++) {
            for (int g = 0; g < 6; g++) {
                int want = g == 5 && (day == 1 || day == 2) ? 0 : by[g];
                Checks.same("day " + day + ", flow of " + g, y.gate(g, 4), want);
                Checks.same("kind", y.gate(g, 0), kind[g]);
            }
            y.rest(1);
        }
        NineBoards z = Checks.lake("lake spread 10 holds 999 has 9;gate l leaks 7 boards 12 width 2;");
        Checks.same("no leak at LEVEL 0", z.gate(0, 4), 0);
    }

    private static void waterByNumbers() {
        NineBoards x = Checks.lake("lake spread 1 holds 99 has 10;gate a plain boards 6 width 2;"
            + "gate b plain boards 9 width 1;gate c plain boards 0 width 9;gate d plain boards 0 width 1;");
        int[] flows = {8, 1, 1, 0};
        Checks.same("all goes", x.act(0), 0);
        for (int g = 0; g < 4; g++) {
            Checks.same("latest flow of " + g, x.gate(g, 5), flows[g]);
            Checks.same("stream of " + g, x.stream(g), flows[g]);
        }
    }

    private static void peace() {
        NineBoards x = Checks.lake("lake spread 1 holds 99 has 10;gate a plain boards 0 width 2;"
            + "gate b plain boards 20 width 1;village v gate a;village w gate b;village u gate a;");
        village(x, 0, 0, 0, 0, 0, 5);
        village(x, 1, 1, 0, 0, 1, 3);
        village(x, 2, 0, 0, 0, 2, 5);
        Checks.same("no lift of none", x.act(1), NONE);
        Checks.holds("rest", x.act(0) >= 0);
        Checks.same("no set above 20", x.act(2), NONE);
        Checks.holds("lift", x.act(1) >= 0);
        Checks.same("boards of b", x.gate(1, 1), 19);
        village(x, 0, 0, 0, 0, 1, 5);
        village(x, 1, 1, 0, 0, 2, 5);
        Checks.holds("set by another", x.act(2) >= 0);
        Checks.same("boards of a", x.gate(0, 1), 1);
        Checks.same("the latest", x.has(7), 2);
        Checks.holds("rest", x.act(0) >= 0);
        Checks.same("a rest is no such ACT", x.has(7), 2);
        Checks.same("no set behind set and rest", x.act(2), NONE);
        village(x, 0, 0, 0, 0, 2, 3);
    }

    private static void joined() {
        NineBoards x = Checks.lake("lake spread 1 holds 99 has 50;gate a plain boards 3 width 1;"
            + "gate b plain boards 20 width 1;gate c plain boards 1 width 1;village v gate a;village w gate c;"
            + "join b a;");
        gate(x, 0, 0, 3, 1, 1);
        gate(x, 1, 0, 20, 1, 0);
        gate(x, 2, 0, 1, 1, NONE);
        village(x, 0, 0, 0, 0, 0, 3);
        Checks.holds("lift", x.act(1) >= 0);
        Checks.same("boards of a", x.gate(0, 1), 2);
        Checks.same("boards of b", x.gate(1, 1), 19);
        Checks.same("boards of c", x.gate(2, 1), 1);
    }

    private static void spilt() {
        NineBoards x = Checks.lake("lake spread 3 holds 10 has 10;gate a plain boards 0 width 1;bank 7 loss 2;"
            + "village v gate a;rain 9999*9 when day = 0;rain 0-5 when day = 1;rain level*10+water when day = 2;"
            + "air 4 when day = 2;air 0-9 when all;");
        Checks.same("DAY 0", x.act(0), 3);
        all(x, 10, 9999, 9996, 3, 0);
        Checks.same("water", x.has(5), 10);
        Checks.same("flooded", x.village(0, 1), -2);
        Checks.same("DAY 1", x.act(0), 2);
        all(x, 10, 9999, 9996, 6, 0);
        // 2 flow of 7; the rain tells by the 5 that are left: 1 * 10 + 5; 20 stand ahead of what is spilt.
        Checks.same("DAY 2", x.act(0), 2);
        all(x, 10, 10014, 10006, 8, 4);
        Checks.same("water", x.has(5), 6);
        Checks.same("not flooded by 20 / 3 = 6", x.village(0, 1), -2);
    }

    private static void chapelAndBank() {
        String lake = "lake spread 2 holds 20 has 9;gate a plain boards 20 width 1;village v gate a;village w gate a;";
        NineBoards x = Checks.lake(lake + "chapel 4 loss 7;");
        x.act(0);
        Checks.same("LEVEL at the chapel", x.village(0, 1), 0);
        NineBoards y = Checks.lake(lake + "chapel 5 loss 7;");
        y.act(0);
        Checks.same("LEVEL below the chapel", y.village(0, 1), -7);
        Checks.same("for all", y.village(1, 2), -7);
        NineBoards z = Checks.lake(lake + "chapel 9 loss 7;chapel 4 loss 9;bank 3 loss 5;bank 4 loss 6;");
        z.act(0);
        Checks.same("the last one counts; LEVEL at the bank", z.village(0, 1), 0);
        NineBoards b = Checks.lake(lake + "bank 3 loss 5;chapel 5 loss 1;air 9 when all;");
        b.act(0);
        Checks.same("above the bank, then below the chapel", b.village(0, 1), -6);
        NineBoards o = Checks.lake("lake spread 1 holds 9 has 9;gate a plain boards 20 width 1;village v gate a;"
            + "bank 10 loss 5;rain 2 when all;");
        o.act(0);
        Checks.same("by the water there would be", o.village(0, 1), -5);
        Checks.same("what is spilt", o.all(2), 2);
    }

    private static void airTakesWhatThereIs() {
        NineBoards x = Checks.lake("lake spread 1 holds 9 has 5;air 7 when day = 0;air water / 2 when all;"
            + "rain 8 when day > 0;");
        Checks.same("DAY 0", x.act(0), 0);
        all(x, 5, 0, 0, 0, 5);
        Checks.same("DAY 1: the air by the water behind the rain", x.act(0), 4);
        all(x, 5, 8, 0, 0, 9);
        Checks.same("DAY 2: by what is not spilt", x.act(0), 5);
        all(x, 5, 16, 3, 0, 13);
    }

    private static void thingsAtTheirEdges() {
        String[] flows = {"5 to 5", "4 to 5", "5 to 6", "0 to 4", "6 to 9"};
        int[] worth = {2, 2, 2, 0, 0};
        for (int k = 0; k < flows.length; k++) {
            NineBoards x = Checks.lake("lake spread 1 holds 9 has 9;gate a plain boards 4 width 1;village v gate a;"
                + "thing v gate a from " + flows[k] + " days 1 to 2 worth 2;rain 9 - water when all;");
            int sum = 0;
            for (int day = 0; day < 4; day++) {
                x.act(0);
                int due = day == 1 || day == 2 ? worth[k] : 0;
                sum += due;
                Checks.same("WORTH on DAY " + day, x.village(0, 2), due);
                Checks.same("WORTH so far", x.village(0, 1), sum);
                Checks.same("served", x.served(0), sum / 2);
            }
        }
    }

    private static void withoutVillages() {
        NineBoards x = Checks.lake("lake spread 1 holds 9 has 9;gate a plain boards 4 width 1;");
        Checks.same("no lift", x.act(1), NONE);
        Checks.same("no set", x.act(2), NONE);
        Checks.same("rest", x.act(0), 4);
    }

    private static void lastDay() {
        NineBoards x = Checks.lake("lake spread 1 holds 9 has 9;gate a plain boards 4 width 1;village v gate a;");
        for (int k = 0; k < 10; k++) {
            Checks.same("rest(99)", x.rest(99), 99);
        }
        Checks.same("DAY", x.has(4), 990);
        Checks.same("rest(8)", x.rest(8), 8);
        Checks.holds("act on DAY 998", x.act(0) >= 0);
        Checks.same("DAY 999", x.has(4), 999);
        Checks.same("act on DAY 999", x.act(0), NONE);
        Checks.same("rest on DAY 999", x.rest(5), 0);
        Checks.same("rest(0) on DAY 999", x.rest(0), NONE);
        Checks.same("30 to undo", x.has(8), 30);
    }

    private static void rests() {
        NineBoards x = Checks.lake(TWO);
        NineBoards y = Checks.lake(TWO);
        Checks.same("rest(5)", x.rest(5), 5);
        for (int k = 0; k < 5; k++) {
            y.act(0);
        }
        for (int k = 0; k <= 8; k++) {
            Checks.same("has(" + k + ")", x.has(k), y.has(k));
            Checks.same("all(" + k + ")", x.all(k), y.all(k));
        }
        Checks.same("WORTH", x.village(1, 1), y.village(1, 1));
    }

    private static void undone() {
        NineBoards x = Checks.lake(TWO);
        Checks.holds("nothing to undo", !x.undo());
        x.act(0);
        x.act(1);
        x.act(2);
        Checks.holds("undo", x.undo());
        has(x, 2, 2, 2, 3, 2, 5, 2, 1, 2);
        gate(x, 0, 0, 4, 1, NONE, 0, 6);
        gate(x, 1, 1, 1, 1, NONE, 4, 12);
        village(x, 0, 0, 7, 2, 0, 5);
        all(x, 20, 22, 0, 35, 2);
        Checks.same("stream(1)", x.stream(1), 23);
        Checks.same("served(0)", x.served(0), 2);
        Checks.holds("undo", x.undo());
        Checks.holds("undo", x.undo());
        Checks.holds("no more", !x.undo());
        has(x, 2, 2, 2, 3, 0, 20, 10, 0, 0);
        village(x, 0, 0, 0, 0, 0, 7);
        all(x, 20, 0, 0, 0, 0);
        x.rest(40);
        Checks.same("the last 30", x.has(8), 30);
        for (int k = 0; k < 30; k++) {
            Checks.holds("undo", x.undo());
        }
        Checks.holds("no more than 30", !x.undo());
        Checks.same("DAY 10", x.has(4), 10);
    }

    private static void undoneWithBoards() {
        NineBoards x = Checks.lake(TWO);
        x.act(2);
        x.steal(0);
        Checks.same("set and stolen", x.gate(0, 1), 4);
        Checks.holds("undo", x.undo());
        Checks.same("boards ahead of the DAY", x.gate(0, 1), 4);
        x.steal(0);
        x.act(2);
        Checks.holds("undo", x.undo());
        Checks.same("stolen ahead of the DAY", x.gate(0, 1), 3);
    }
}
