/** Promises 30 and 31: the seed, and years under laws. */
public final class LawsTest {
    private static final int NOTHING = NineBoards.NOTHING;

    private LawsTest() {
    }

    public static void main(String[] args) {
        seeds();
        laws();
        narrowLaw();
        joinedUnderTheNarrowLaw();
        peaceGoesOnFromNow();
        drawsOn();
        spilt();
        lastDay();
        wrongQuestions();
        withoutVillages();
        Checks.finish("LawsTest");
    }

    /** The water comes back every DAY; flows tell the boards (10 less them), and worths the flows. */
    private static NineBoards lake(int boards) {
        StringBuilder text = new StringBuilder("lake spread 1 holds 99 has 10;gate a plain boards " + boards
            + " width 1;village v gate a;rain 10-water when all;");
        int[] worth = {2, 4, 0, 0, 7, 1, 10, 40, 0, 3, 5};
        for (int flow = 0; flow < worth.length; flow++) {
            if (worth[flow] > 0) {
                text.append("thing v gate a from " + flow + " to " + flow + " days 0 to 999 worth " + worth[flow]
                    + ";");
            }
        }
        return Checks.lake(text.toString());
    }

    private static void seeds() {
        NineBoards x = lake(5);
        // The seed is 1 at first: it draws 1, 0, 2.
        Checks.same("seed 1 at first", x.years(1, 1, 3, 0), 10 + 10 + 1);
        Checks.holds("seed(0)", x.seed(0));
        Checks.same("seed 0 draws 0, 2", x.years(1, 1, 2, 0), 1 + 7);
        Checks.holds("seed(-1)", !x.seed(-1));
        Checks.same("it drew on: 1", x.years(1, 1, 1, 0), 10);
        Checks.holds("seed(most)", x.seed(Integer.MAX_VALUE));
        Checks.same("draws 2, 0, 0, 1", x.years(0, 1, 4, 0), 7 + 7 + 7 + 1);
        Checks.holds("seed(least)", !x.seed(Integer.MIN_VALUE));
        Checks.same("the lake stays", x.has(4), 0);
        Checks.same("the boards stay", x.gate(0, 1), 5);
        Checks.same("no WORTH", x.village(0, 1), 0);
    }

    private static void laws() {
        NineBoards x = lake(5);
        // Seed 8 draws 1, 1, 2, 2.
        int[] want = {10 + 10 + 1 + 1, 10 + 40 + 10 + 1, 10 + 40 + 10 + 1, 4};
        for (int law = 0; law <= 3; law++) {
            x.seed(8);
            Checks.same("law " + law, x.years(law, 1, 4, 0), want[law]);
        }
        x.seed(8);
        x.years(3, 1, 1, 0);
        Checks.same("under law 3 it is drawn, too: 1, 2 are left", x.years(0, 1, 2, 0), 10 + 1);
    }

    private static void narrowLaw() {
        // Seed 8 draws 1, 1; seed 4 draws 2, 0.
        NineBoards low = lake(1);
        low.seed(8);
        Checks.same("down to 0 boards", low.years(1, 1, 2, 0), 5 + 5);
        low.seed(8);
        Checks.same("not below 1 board", low.years(2, 1, 2, 0), 3 + 3);
        NineBoards high = lake(9);
        high.seed(4);
        Checks.same("above 9", high.years(1, 1, 2, 0), 2 + 2);
        high.seed(4);
        Checks.same("not above 9", high.years(2, 1, 2, 0), 4 + 4);
        NineBoards edge = lake(8);
        edge.seed(4);
        Checks.same("up to 9", edge.years(2, 1, 1, 0), 4);
        NineBoards beyond = lake(20);
        beyond.seed(8);
        Checks.same("lifted from above 9", beyond.years(2, 1, 2, 0), 2 + 2);
    }

    private static void joinedUnderTheNarrowLaw() {
        NineBoards x = Checks.lake("lake spread 1 holds 99 has 10;gate a plain boards 5 width 1;"
            + "gate b plain boards 9 width 1;join a b;village v gate a;rain 10-water when all;"
            + "thing v gate a from 4 to 4 days 0 to 9 worth 7;thing v gate a from 5 to 5 days 0 to 9 worth 1;");
        x.seed(4);
        Checks.same("law 1", x.years(1, 1, 1, 0), 7);
        x.seed(4);
        Checks.same("the joined one is not set above 9", x.years(2, 1, 1, 0), 1);
    }

    private static void peaceGoesOnFromNow() {
        NineBoards x = lake(6);
        x.act(1);
        x.seed(8);
        Checks.same("no lift behind the latest lift", x.years(0, 1, 1, 0), 1);
        x.seed(8);
        Checks.same("but without the peace", x.years(1, 1, 1, 0), 10);
        Checks.same("the latest ACT stays", x.has(7), 1);
    }

    private static void drawsOn() {
        NineBoards x = lake(5);
        x.seed(8);
        // 1, 1 then, from the beginning again, 2, 2.
        Checks.same("two years", x.years(1, 2, 2, 0), 10 + 40 + 7);
        x.seed(8);
        Checks.same("one", x.years(1, 1, 2, 0), 10 + 40);
        Checks.same("and one", x.years(1, 1, 2, 0), 7);
        x.seed(8);
        Checks.same("what can't be draws nothing", x.years(1, 0, 2, 0), NOTHING);
        Checks.same("one", x.years(1, 1, 2, 0), 10 + 40);
    }

    private static void spilt() {
        NineBoards x = Checks.lake("lake spread 1 holds 10 has 10;gate a plain boards 5 width 1;village v gate a;"
            + "rain 8 when all;");
        // Rests: 5 flow and 8 fall on every DAY, so 3 are spilt.
        Checks.same("rests", x.years(3, 2, 10, 1), 60);
        x.seed(8);
        Checks.same("lifts: 6, then 7 flow", x.years(1, 1, 2, 1), 2 + 1);
        x.act(0);
        Checks.same("spilt so far does not count", x.years(3, 1, 10, 1), 30);
        Checks.same("nor changes", x.all(2), 3);
        Checks.same("most", x.years(3, 20, 100, 1), 6000);
    }

    private static void lastDay() {
        NineBoards x = Checks.lake("lake spread 1 holds 10 has 10;gate a plain boards 5 width 1;village v gate a;"
            + "rain 8 when all;");
        for (int k = 0; k < 10; k++) {
            x.rest(99);
        }
        x.rest(4);
        Checks.same("5 DAYS are left", x.years(3, 2, 100, 1), 30);
        x.seed(8);
        x.years(3, 1, 100, 1);
        NineBoards y = Checks.lake("lake spread 1 holds 10 has 10;gate a plain boards 5 width 1;village v gate a;"
            + "rain 8 when all;");
        y.seed(8);
        y.years(3, 1, 5, 1);
        Checks.same("drawn 5 times alone", x.years(1, 1, 5, 1), y.years(1, 1, 5, 1));
        x.rest(5);
        Checks.same("on DAY 999", x.years(3, 1, 1, 1), NOTHING);
    }

    private static void wrongQuestions() {
        NineBoards x = lake(5);
        int[][] none = {{-1, 1, 1, 0}, {4, 1, 1, 0}, {0, 0, 1, 0}, {0, 21, 1, 0}, {0, 1, 0, 0}, {0, 1, 101, 0},
            {0, 1, 1, -1}, {0, 1, 1, 2}, {Integer.MIN_VALUE, 1, 1, 0}, {0, Integer.MAX_VALUE, 1, 0}};
        for (int[] n : none) {
            Checks.same("years", x.years(n[0], n[1], n[2], n[3]), NOTHING);
        }
    }

    private static void withoutVillages() {
        NineBoards x = Checks.lake("lake spread 1 holds 10 has 10;gate a plain boards 5 width 1;rain 8 when all;");
        Checks.same("no WORTH", x.years(1, 2, 10, 0), 0);
        Checks.same("rests", x.years(1, 2, 10, 1), 60);
    }
}
