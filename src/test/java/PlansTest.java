/** Promises 23 to 26: each for itself, all for all, shares, first before a flood. */
public final class PlansTest {
    private static final int NONE = NineBoards.NONE;
    private static final int NOTHING = NineBoards.NOTHING;
    // The water comes back every DAY, so that flows tell the boards: 10 less them.
    private static final String LAKE = "lake spread 1 holds 99 has 10;gate a plain boards 5 width 1;"
        + "gate z plain boards 20 width 1;rain 10-water when all;village v gate a;village w gate a;";

    private PlansTest() {
    }

    public static void main(String[] args) {
        oneDay();
        againstTheOther();
        likeOnes();
        sharesOfMore();
        sameVillageAgain();
        withoutVillages();
        wrongQuestions();
        lastDays();
        flood();
        floodWithJoined();
        Checks.finish("PlansTest");
    }

    private static String thing(char village, int flow, int worth) {
        return "thing " + village + " gate a from " + flow + " to " + flow + " days 0 to 999 worth " + worth + ";";
    }

    private static void selfish(NineBoards x, int n, int... want) {
        for (int k = 0; k < want.length; k++) {
            int what = k < n ? k : 10 + k - n;
            Checks.same("selfish(" + n + ", " + what + ")", x.selfish(n, what), want[k]);
        }
    }

    private static void common(NineBoards x, int n, int... want) {
        for (int k = 0; k < want.length; k++) {
            int what = k < n ? k : 9 + k - n;
            Checks.same("common(" + n + ", " + what + ")", x.common(n, what), want[k]);
        }
    }

    private static void shares(NineBoards x, int n, int... want) {
        for (int v = 0; v < want.length; v++) {
            Checks.same("share(" + n + ", " + v + ")", x.share(n, v), want[v]);
        }
    }

    private static void oneDay() {
        NineBoards x = Checks.lake(LAKE + thing('v', 6, 2) + thing('v', 4, 1) + thing('w', 4, 9));
        selfish(x, 1, 1, 2, 0);
        common(x, 1, 2, 10, 1, 9);
        // 8 more together than 2: 4 more each.
        shares(x, 1, 6, 4);
        Checks.same("nothing went by", x.has(4), 0);
        Checks.same("boards stay", x.gate(0, 1), 5);
        Checks.same("the latest ACT stays", x.has(7), 0);
    }

    private static void againstTheOther() {
        NineBoards x = Checks.lake(LAKE + thing('v', 6, 5) + thing('v', 5, 4) + thing('w', 5, 3) + thing('w', 4, 9));
        // If v lifts (5), w sets it back (3, and 4 for v): 9 and 3. If v rests (4), w sets (9): 4 and 12.
        // If v sets, w gets 9 and may only lift or rest: 9 again by resting.
        selfish(x, 2, 1, 2, 9, 3);
        // set, rest: 18 together; rest, set: 4 + 3 + 9 = 16; lift, set: 12.
        common(x, 2, 2, 0, 18, 0, 18);
        shares(x, 2, 12, 6);
        Checks.same("selfish(2, 2)", x.selfish(2, 2), NOTHING);
    }

    private static void likeOnes() {
        NineBoards x = Checks.lake(LAKE);
        selfish(x, 6, 0, 0, 0, 0, 0, 0, 0, 0);
        common(x, 6, 0, 0, 0, 0, 0, 0, 0, 0, 0);
        NineBoards y = Checks.lake(LAKE + thing('v', 6, 5) + thing('v', 4, 5));
        selfish(y, 1, 1, 5, 0);
        common(y, 1, 1, 5, 5, 0);
        // All for all: of lift, rest and set, rest the first by numbers.
        common(y, 2, 1, 0, 10, 10, 0);
    }

    private static void sharesOfMore() {
        String three = LAKE + "village u gate z;";
        NineBoards x = Checks.lake(three + thing('v', 6, 1) + thing('w', 4, 6));
        // 5 more together than 1 for three: 2, 2, 1 more.
        shares(x, 1, 3, 2, 1);
        NineBoards y = Checks.lake(three + thing('v', 6, 1) + thing('w', 4, 4) + "chapel 99 loss 3;");
        selfish(y, 1, 1, -2, -3, -3);
        common(y, 1, 2, -5, -3, 1, -3);
        shares(y, 1, -1, -2, -2);
    }

    private static void sameVillageAgain() {
        NineBoards x = Checks.lake("lake spread 1 holds 99 has 10;gate a plain boards 5 width 1;"
            + "rain 10-water when all;village v gate a;" + thing('v', 5, 1) + thing('v', 6, 3) + thing('v', 4, 2));
        // lift (3), rest (3), rest (3): nothing is greater.
        selfish(x, 3, 1, 0, 0, 9);
        common(x, 3, 1, 0, 0, 9, 9);
        shares(x, 3, 9);
        x.act(1);
        x.act(2);
        x.act(0);
        // The latest is a set: a lift is allowed.
        selfish(x, 2, 1, 0, 6);
    }

    private static void withoutVillages() {
        NineBoards x = Checks.lake("lake spread 1 holds 99 has 10;gate a plain boards 5 width 1;");
        selfish(x, 3, 0, 0, 0, NOTHING);
        common(x, 3, 0, 0, 0, 0, NOTHING);
        shares(x, 3, NOTHING);
    }

    private static void wrongQuestions() {
        NineBoards x = Checks.lake(LAKE);
        int[][] none = {{0, 0}, {7, 0}, {-1, 0}, {2, -1}, {2, 2}, {2, 8}, {2, 12}, {6, 6}, {6, 16},
            {Integer.MAX_VALUE, 0}, {1, Integer.MAX_VALUE}, {1, Integer.MIN_VALUE}, {Integer.MIN_VALUE, 10}};
        for (int[] n : none) {
            Checks.same("selfish", x.selfish(n[0], n[1]), NOTHING);
            Checks.same("common", x.common(n[0], n[1]), NOTHING);
        }
        Checks.same("selfish(2, 9)", x.selfish(2, 9), NOTHING);
        int[][] noShare = {{0, 0}, {7, 0}, {1, -1}, {1, 2}, {1, Integer.MAX_VALUE}, {Integer.MIN_VALUE, 0}};
        for (int[] n : noShare) {
            Checks.same("share", x.share(n[0], n[1]), NOTHING);
        }
    }

    private static void lastDays() {
        NineBoards x = Checks.lake(LAKE);
        for (int k = 0; k < 10; k++) {
            x.rest(99);
        }
        x.rest(4);
        Checks.same("DAY", x.has(4), 994);
        Checks.same("5 DAYS up to 999", x.selfish(5, 0), 0);
        Checks.same("5 DAYS up to 999", x.common(5, 9), 0);
        Checks.same("5 DAYS up to 999", x.share(5, 1), 0);
        Checks.same("6 DAYS", x.selfish(6, 0), NOTHING);
        Checks.same("6 DAYS", x.common(6, 9), NOTHING);
        Checks.same("6 DAYS", x.share(6, 1), NOTHING);
        x.rest(4);
        Checks.same("first on DAY 998", x.first(5, 5), 0);
        x.rest(1);
        Checks.same("first on DAY 999", x.first(5, 5), NONE);
        Checks.same("selfish on DAY 999", x.selfish(1, 0), NOTHING);
    }

    private static void flood() {
        // As it is 6 and 0 flow; a board less: 7 by a; 4 by b (of the 4 that a leaves); none more by c.
        NineBoards x = Checks.lake("lake spread 1 holds 10 has 10;gate a plain boards 4 width 1;"
            + "gate b plain boards 10 width 9;gate c plain boards 20 width 9;rain 5 when all;");
        Checks.same("b lets most", x.first(50, 50), 1);
        Checks.same("no flood at all", x.first(0, 50), 0);
        Checks.same("by no odds", x.first(50, 0), 0);
        Checks.same("by all odds", x.first(50, 100), 1);
        int[][] none = {{-1, 50}, {10000, 50}, {50, -1}, {50, 101}};
        for (int[] n : none) {
            Checks.same("first", x.first(n[0], n[1]), NONE);
        }
        Checks.same("edges", x.first(9999, 1), 1);
        Checks.same("boards stay", x.gate(1, 1), 10);
        NineBoards y = Checks.lake("lake spread 1 holds 10 has 10;gate a plain boards 0 width 1;");
        Checks.same("none has boards", y.first(50, 50), NONE);
        // What is left tells the rain: with a's board less 3 are left, and it rains 30; with b's 4, and none.
        NineBoards z = Checks.lake("lake spread 1 holds 10 has 10;gate a plain boards 4 width 1;"
            + "gate b plain boards 20 width 1;rain 30 when water=3;");
        Checks.same("by what it rains", z.first(0, 0), 1);
        // a: 23 or 53; b: 0 or 24.
        Checks.same("by what it rains", z.first(30, 100), 1);
        NineBoards o = Checks.lake("lake spread 1 holds 10 has 10;gate a plain boards 4 width 1;"
            + "gate b plain boards 9 width 1;gate c plain boards 20 width 1;rain 8 when water=2;");
        // As it is 6 and 1 flow. a: 7, 1 flow, 2 left, 8 rain: 0 spilt, with 1 more 1. b: 6, 2: likewise.
        // c: 6, 1: 3 left, no rain.
        Checks.same("like ones: the first", o.first(0, 50), 0);
        Checks.same("one more", o.first(1, 1), 2);
    }

    private static void floodWithJoined() {
        NineBoards x = Checks.lake("lake spread 1 holds 20 has 20;gate a plain boards 19 width 2;"
            + "gate b plain boards 0 width 1;gate c plain boards 20 width 1;gate d plain boards 20 width 1;"
            + "join a b;join c d;rain 30 when all;village v gate a;");
        Checks.same("joined to one without boards", x.first(9, 9), 2);
        NineBoards y = Checks.lake("lake spread 1 holds 20 has 20;gate a plain boards 19 width 1;"
            + "gate b plain boards 20 width 1;gate c plain boards 20 width 2;join b c;rain 30 when all;"
            + "village v gate a;");
        y.act(1);
        y.undo();
        // a: 2 flow; b: 1 and 1 and 2.
        Checks.same("both boards less", y.first(9, 9), 1);
    }
}
