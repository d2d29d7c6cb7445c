/** Terms II: how a DAY goes by, sentence by sentence. */
final class TermsOfDays {
    private static final int NONE = NineBoards.NONE;

    private TermsOfDays() {
    }

    static void look() {
        level();
        theAct();
        thePeace();
        waterByNumbers();
        head();
        kinds();
        streams();
        rain();
        rainAtItsBounds();
        spilt();
        air();
        lastDay();
        worthOfThings();
        losses();
    }

    /** A lake in which it is now so, by an image. */
    static NineBoards at(String text, int day, int water, int latest, int... boards) {
        NineBoards x = Checks.lake(text);
        Checks.put(x, Checks.image(day, water, latest, boards));
        Checks.holds("on()", x.on());
        return x;
    }

    private static void level() {
        Document.section("Terms");
        Document.says("II. LEVEL: floor(water / spread).");
        int[][] rows = {{1, 0, 0}, {1, 1, 1}, {1, 9999, 9999}, {10, 0, 0}, {10, 9, 0}, {10, 10, 1}, {10, 19, 1},
            {10, 20, 2}, {10, 9999, 999}, {999, 998, 0}, {999, 999, 1}, {999, 9989, 9}, {999, 9990, 10},
            {999, 9999, 10}};
        for (int[] r : rows) {
            NineBoards x = Checks.lake("lake spread " + r[0] + " holds 9999 has " + r[1] + ";");
            Checks.same("LEVEL of " + r[1] + " by " + r[0], x.has(6), r[2]);
        }
    }

    private static void theAct() {
        Document.says("On a DAY (0 at first) first THE ACT: the VILLAGE of the DAY (DAY modulo VILLAGES) rests (0), lifts (1) or sets (2) one board at its GATE, and at that which it is joined to.");
        String three = "lake spread 1 holds 99 has 50;gate a plain boards 5 width 1;gate b plain boards 6 width 1;"
            + "gate c plain boards 7 width 1;gate d plain boards 8 width 1;village u gate a;village v gate b;"
            + "village w gate c;join c d;rain 50-water when all;";
        NineBoards x = Checks.lake(three);
        Checks.same("DAY 0 at first", x.has(4), 0);
        int[] acts = {1, 2, 1, 2, 0, 0, 1};
        int[][] boards = {{4, 6, 7, 8}, {4, 7, 7, 8}, {4, 7, 6, 7}, {5, 7, 6, 7}, {5, 7, 6, 7}, {5, 7, 6, 7},
            {4, 7, 6, 7}};
        for (int day = 0; day < acts.length; day++) {
            Checks.holds("ACT of DAY " + day, x.act(acts[day]) >= 0);
            for (int g = 0; g < 4; g++) {
                Checks.same("boards of " + g + " behind DAY " + day, x.gate(g, 1), boards[day][g]);
            }
        }
        NineBoards first = Checks.lake(three);
        first.act(1);
        Checks.same("the ACT is ahead of the FLOW", first.gate(0, 5), 46);
        NineBoards joined = at(three, 2, 50, 0, 5, 6, 7, 8);
        joined.act(2);
        Checks.same("the joined one's, too, ahead of the FLOW", joined.gate(3, 1), 9);
        NineBoards late = at(three, 998, 50, 0, 5, 6, 7, 8);
        Checks.holds("ACT of DAY 998", late.act(1) >= 0);
        Checks.same("998 modulo 3 is 2", late.gate(2, 1), 6);
        NineBoards one = at("lake spread 1 holds 9 has 9;gate a plain boards 5 width 1;village v gate a;", 997, 9, 0,
            5);
        Checks.holds("ACT of the one VILLAGE", one.act(1) >= 0);
        Checks.holds("and on the next DAY", one.act(2) >= 0);
        Checks.same("its boards", one.gate(0, 1), 5);
    }

    private static final String TWO = "lake spread 1 holds 9 has 9;gate a plain boards 5 width 1;"
        + "gate b plain boards 5 width 1;village v gate a;village w gate a;";

    private static void acts(String text, int latest, int a, int b, int bits) {
        for (int act = 0; act <= 2; act++) {
            NineBoards x = at(text, 0, 9, latest, a, b);
            Checks.same("bits", x.village(0, 4), bits);
            boolean may = (bits & 1 << act) != 0;
            Checks.same("act(" + act + ") with " + a + ", " + b + " behind " + latest, x.act(act) == NONE ? 0 : 1,
                may ? 1 : 0);
            int by = !may || act == 0 ? 0 : act == 1 ? -1 : 1;
            Checks.same("boards", x.gate(0, 1), a + by);
            Checks.same("DAY", x.has(4), may ? 1 : 0);
        }
    }

    private static void thePeace() {
        Document.says("THE PEACE: boards stay 0 .. 20, and it is not the way (lift or set) of the latest ACT that was no rest.");
        acts(TWO, 0, 0, 5, 1 + 4);
        acts(TWO, 0, 1, 5, 1 + 2 + 4);
        acts(TWO, 0, 19, 5, 1 + 2 + 4);
        acts(TWO, 0, 20, 5, 1 + 2);
        acts(TWO, 0, 5, 0, 1 + 2 + 4);
        acts(TWO, 0, 5, 20, 1 + 2 + 4);
        acts(TWO, 1, 5, 5, 1 + 4);
        acts(TWO, 2, 5, 5, 1 + 2);
        acts(TWO, 1, 20, 5, 1);
        acts(TWO, 2, 0, 5, 1);
        String joined = TWO + "join a b;";
        acts(joined, 0, 1, 0, 1 + 4);
        acts(joined, 0, 1, 1, 1 + 2 + 4);
        acts(joined, 0, 19, 20, 1 + 2);
        acts(joined, 0, 19, 19, 1 + 2 + 4);
        acts(joined, 0, 0, 20, 1);
        acts(joined, 0, 20, 0, 1);
        NineBoards x = Checks.lake(TWO);
        Checks.holds("lift", x.act(1) >= 0);
        Checks.same("no lift by another", x.act(1), NONE);
        Checks.same("40 rests", x.rest(40), 40);
        Checks.same("no lift behind rests", x.act(1), NONE);
        Checks.holds("set", x.act(2) >= 0);
        Checks.same("no set", x.act(2), NONE);
        Checks.holds("lift again", x.act(1) >= 0);
        Checks.same("boards", x.gate(0, 1), 4);
    }

    private static void flows(NineBoards x, int... want) {
        for (int g = 0; g < want.length; g++) {
            Checks.same("what flows at " + g, x.gate(g, 4), want[g]);
        }
        x.act(0);
        for (int g = 0; g < want.length; g++) {
            Checks.same("what flowed at " + g, x.gate(g, 5), want[g]);
        }
    }

    private static void waterByNumbers() {
        Document.says("Then by the LEVEL and water as they are now the FLOW of each GATE, by numbers, as much as there still is water:");
        String gates = "gate a plain boards 6 width 1;gate b plain boards 7 width 2;gate c plain boards 9 width 1;";
        // LEVEL 10: 4, 6, 1 by the LEVEL that was there ahead of all flowing.
        flows(Checks.lake("lake spread 1 holds 99 has 10;" + gates), 4, 6, 0);
        flows(Checks.lake("lake spread 1 holds 99 has 11;" + gates), 5, 6, 0);
        flows(Checks.lake("lake spread 2 holds 99 has 21;" + gates), 4, 6, 1);
        flows(Checks.lake("lake spread 1 holds 99 has 10;gate a plain boards 6 width 2;gate b plain boards 8 width 1;"
            + "gate c plain boards 0 width 1;"), 8, 2, 0);
        flows(Checks.lake("lake spread 1 holds 99 has 10;gate a plain boards 6 width 2;gate b plain boards 7 width 1;"
            + "gate c plain boards 0 width 1;"), 8, 2, 0);
        flows(Checks.lake("lake spread 1 holds 99 has 10;gate a plain boards 0 width 1;"
            + "gate b plain boards 0 width 1;"), 10, 0);
        flows(Checks.lake("lake spread 1 holds 99 has 0;gate a plain boards 0 width 99;"), 0);
        flows(Checks.lake("lake spread 1 holds 9999 has 9999;gate a plain boards 0 width 99;"), 9999);
    }

    private static void head() {
        Document.says("its HEAD is LEVEL less boards, 0 at least;");
        int[][] rows = {{0, 7}, {6, 1}, {7, 0}, {8, 0}, {20, 0}};
        for (int[] r : rows) {
            flows(Checks.lake("lake spread 10 holds 99 has 79;gate a plain boards " + r[0] + " width 1;"), r[1]);
        }
    }

    private static void kind(String kind, int boards, int water, int day, int want) {
        String text = "lake spread 10 holds 999 has 0;gate a " + kind + " boards 0 width 3;";
        flows(at(text, day, water, 0, boards), want);
    }

    private static void kinds() {
        Document.says("plain: HEAD times width;");
        kind("plain", 3, 40, 0, 3);
        kind("plain", 0, 49, 0, 12);
        kind("plain", 4, 49, 0, 0);
        Document.says("leaks: that and N, if there are boards and the LEVEL is above 0;");
        kind("leaks 7", 0, 40, 0, 12);
        kind("leaks 7", 1, 40, 0, 16);
        kind("leaks 7", 4, 40, 0, 7);
        kind("leaks 7", 20, 40, 0, 7);
        kind("leaks 7", 1, 9, 0, 0);
        kind("leaks 7", 1, 10, 0, 7);
        kind("leaks 99", 20, 98, 0, 98);
        kind("leaks 99", 20, 99, 0, 99);
        kind("leaks 99", 20, 100, 0, 99);
        kind("leaks 7", 20, 0, 0, 0);
        Document.says("steps: floor(HEAD / N) times N times width;");
        kind("steps 4", 2, 50, 0, 0);
        kind("steps 4", 2, 60, 0, 12);
        kind("steps 4", 2, 90, 0, 12);
        kind("steps 4", 2, 100, 0, 24);
        kind("steps 1", 2, 50, 0, 9);
        kind("steps 9", 0, 80, 0, 0);
        kind("steps 9", 0, 90, 0, 27);
        kind("steps 4", 9, 50, 0, 0);
        Document.says("frozen: 0 on these DAYS, else as plain.");
        int[][] rows = {{4, 6}, {5, 0}, {6, 0}, {7, 0}, {8, 6}};
        for (int[] r : rows) {
            kind("frozen 5 to 7", 2, 40, r[0], r[1]);
        }
        kind("frozen 0 to 0", 2, 40, 0, 0);
        kind("frozen 0 to 0", 2, 40, 1, 6);
        kind("frozen 998 to 998", 2, 40, 997, 6);
        kind("frozen 998 to 998", 2, 40, 998, 0);
        kind("frozen 999 to 999", 2, 40, 998, 6);
        NineBoards x = at("lake spread 10 holds 99 has 0;gate a frozen 999 to 999 boards 0 width 1;", 999, 40, 0, 2);
        Checks.same("frozen on DAY 999", x.gate(0, 4), 0);
    }

    private static void streams() {
        Document.says("It goes down its stream.");
        NineBoards x = Checks.lake("lake spread 1 holds 99 has 10;gate a plain boards 8 width 1;"
            + "gate b plain boards 9 width 3;");
        x.act(0);
        Checks.same("stream(0)", x.stream(0), 2);
        Checks.same("stream(1)", x.stream(1), 3);
        Checks.same("water", x.has(5), 5);
        x.act(0);
        Checks.same("none more", x.stream(1), 3);
        Checks.same("water", x.has(5), 5);
    }

    private static void rain() {
        Document.says("Then it rains: the SUM of the first RULE of rain whose TEST holds (day that DAY, level, water as they are now),");
        // 15 of 25 flow; what it rains goes by the 10 that are left, LEVEL 5.
        String lake = "lake spread 2 holds 999 has 25;gate a plain boards 11 width 15;";
        NineBoards x = Checks.lake(lake + "rain 1000*day+100*level+water when all;");
        x.act(0);
        Checks.same("by what is left", x.all(1), 510);
        Checks.same("water", x.has(5), 520);
        NineBoards day = at("lake spread 1 holds 9999 has 0;rain day when all;", 998, 0, 0);
        day.act(0);
        Checks.same("by the DAY that it is", day.all(1), 998);
        for (String test : new String[] {"water=10", "level=5", "day=0", "all"}) {
            NineBoards y = Checks.lake(lake + "rain 7 when not " + test + ";rain 3 when " + test + ";");
            y.act(0);
            Checks.same("the first that holds: " + test, y.all(1), 3);
        }
        NineBoards first = Checks.lake(lake + "rain 3 when all;rain 7 when all;");
        first.act(0);
        Checks.same("the first of two that hold", first.all(1), 3);
        NineBoards air = Checks.lake(lake + "air 1 when all;rain 7 when all;");
        air.act(0);
        Checks.same("a RULE of air ahead is none of rain", air.all(1), 7);
    }

    private static void rainAtItsBounds() {
        Document.says("0 .. 9999 (below is 0, above 9999; 0 without);");
        String[] sums = {"0-9999*9999", "0-1", "0", "1", "9998", "9999", "9999+1", "9999*9999"};
        int[] want = {0, 0, 0, 1, 9998, 9999, 9999, 9999};
        for (int k = 0; k < sums.length; k++) {
            NineBoards x = Checks.lake("lake spread 1 holds 9999 has 0;rain " + sums[k] + " when all;");
            Checks.same("LEVEL behind rain " + sums[k], x.act(0), want[k]);
            Checks.same("rain " + sums[k], x.all(1), want[k]);
            Checks.same("none spilt", x.all(2), 0);
        }
        NineBoards none = Checks.lake("lake spread 1 holds 9999 has 0;rain 5 when not all;air 5 when all;");
        none.act(0);
        Checks.same("without one that holds", none.all(1), 0);
        NineBoards without = Checks.lake("lake spread 1 holds 9999 has 0;");
        without.act(0);
        Checks.same("without any", without.all(1), 0);
    }

    private static void spilt() {
        Document.says("what the lake does not hold is SPILT.");
        int[][] rows = {{0, 10, 0}, {9, 19, 0}, {10, 20, 0}, {11, 20, 1}, {9999, 20, 9989}};
        for (int[] r : rows) {
            NineBoards x = Checks.lake("lake spread 1 holds 20 has 10;rain " + r[0] + " when all;");
            Checks.same("LEVEL", x.act(0), r[1]);
            Checks.same("SPILT of " + r[0], x.all(2), r[2]);
            Checks.same("rained", x.all(1), r[0]);
        }
        NineBoards x = Checks.lake("lake spread 1 holds 9999 has 9999;rain 9999 when all;");
        x.act(0);
        Checks.same("a full lake", x.all(2), 9999);
    }

    private static void air() {
        Document.says("Then the air takes the SUM of the first RULE of air whose TEST holds, likewise, as much as there is.");
        String[] sums = {"0-5", "0", "1", "9", "10", "11", "9999*9"};
        int[] want = {0, 0, 1, 9, 10, 10, 10};
        for (int k = 0; k < sums.length; k++) {
            NineBoards x = Checks.lake("lake spread 1 holds 20 has 10;air 7 when not all;air " + sums[k]
                + " when all;air 3 when all;");
            Checks.same("LEVEL", x.act(0), 10 - want[k]);
            Checks.same("air " + sums[k], x.all(4), want[k]);
        }
        // It goes by what is there behind the rain and what is spilt: 20, LEVEL 10.
        NineBoards x = Checks.lake("lake spread 2 holds 20 has 10;rain 15 when all;air level+water/10+day when all;");
        x.act(0);
        Checks.same("by what is left", x.all(4), 12);
        NineBoards most = Checks.lake("lake spread 1 holds 9999 has 9999;air 9999*2 when all;");
        most.act(0);
        Checks.same("9999 at most", most.all(4), 9999);
        NineBoards without = Checks.lake("lake spread 1 holds 9999 has 9999;air 5 when day>0;rain 5 when day>0;");
        without.act(0);
        Checks.same("0 without", without.all(4), 0);
        NineBoards late = at("lake spread 1 holds 9999 has 0;air day when all;", 998, 9999, 0);
        late.act(0);
        Checks.same("by the DAY that it is", late.all(4), 998);
    }

    private static void lastDay() {
        Document.says("DAY is one more (999 at most: on DAY 999 nothing can be done).");
        NineBoards x = at(TWO + "rain 9 when all;", 997, 9, 0, 5, 5);
        Checks.holds("on DAY 997", x.act(0) >= 0);
        Checks.same("DAY", x.has(4), 998);
        Checks.holds("on DAY 998", x.act(1) >= 0);
        Checks.same("DAY", x.has(4), 999);
        java.util.List<Long> ahead = Looks.at(x);
        Checks.same("act(0)", x.act(0), NONE);
        Checks.same("act(1)", x.act(1), NONE);
        Checks.same("act(2)", x.act(2), NONE);
        Checks.same("rest(1)", x.rest(1), 0);
        Checks.same("rest(99)", x.rest(99), 0);
        Looks.stay("DAY 999", x, ahead);
    }

    private static void thing(int from, int to, int dayFrom, int dayTo, int day, boolean served) {
        // LEVEL 9 less 4 boards: 5 flow.
        NineBoards x = at("lake spread 1 holds 9 has 9;gate a plain boards 4 width 1;village v gate a;village w gate a;"
            + "thing w gate a from " + from + " to " + to + " days " + dayFrom + " to " + dayTo + " worth 7;",
            day, 9, 0, 4);
        x.act(0);
        String what = from + " to " + to + ", " + dayFrom + " to " + dayTo + " on DAY " + day;
        Checks.same(what, x.village(1, 2), served ? 7 : 0);
        Checks.same("of the other VILLAGE", x.village(0, 2), 0);
        Checks.same("served", x.served(0), served ? 1 : 0);
    }

    private static void worthOfThings() {
        Document.says("  WORTH of a VILLAGE on a DAY: that of its THINGS for which the DAY is within days and the FLOW of their GATE within from .. to;");
        thing(5, 5, 10, 20, 9, false);
        thing(5, 5, 10, 20, 10, true);
        thing(5, 5, 10, 20, 20, true);
        thing(5, 5, 10, 20, 21, false);
        thing(5, 5, 0, 0, 0, true);
        thing(5, 5, 0, 0, 1, false);
        thing(5, 5, 998, 999, 997, false);
        thing(5, 5, 998, 999, 998, true);
        thing(0, 4, 0, 999, 0, false);
        thing(0, 5, 0, 999, 0, true);
        thing(5, 9999, 0, 999, 0, true);
        thing(6, 9999, 0, 999, 0, false);
        NineBoards dry = Checks.lake("lake spread 1 holds 9 has 0;gate a plain boards 4 width 1;village v gate a;"
            + "thing v gate a from 0 to 0 days 0 to 0 worth 99;thing v gate a from 1 to 1 days 0 to 0 worth 99;");
        dry.act(0);
        Checks.same("a FLOW of 0 is within 0 .. 0", dry.village(0, 2), 99);
        NineBoards all = Checks.lake("lake spread 1 holds 9 has 9;gate a plain boards 4 width 1;"
            + "gate b plain boards 8 width 1;"
            + "village v gate a;" + TermsOfText.times(15, "thing v gate a from 5 to 5 days 0 to 0 worth 99;")
            + "thing v gate b from 1 to 1 days 0 to 0 worth 99;");
        all.act(0);
        Checks.same("16 THINGS together", all.village(0, 2), 16 * 99);
    }

    private static int loss(String statements) {
        NineBoards x = Checks.lake("lake spread 2 holds 20 has 11;gate a plain boards 20 width 1;village v gate a;"
            + "village w gate a;"
            + statements);
        x.act(0);
        Checks.same("for all VILLAGES alike", x.village(0, 2), x.village(1, 2));
        return x.village(0, 2);
    }

    private static void losses() {
        Document.says("less the chapel's loss, if the LEVEL is below the chapel at the end of the DAY, and the bank's, if the LEVEL ahead of what is SPILT would be above it (by the water there would be).");
        Checks.same("LEVEL 5 at the chapel", loss("chapel 5 loss 7;"), 0);
        Checks.same("LEVEL 5 below the chapel", loss("chapel 6 loss 7;"), -7);
        Checks.same("a chapel at 0", loss("chapel 0 loss 99;air 99 when all;"), 0);
        Checks.same("a chapel at 1 and no water", loss("chapel 1 loss 99;air 99 when all;"), -99);
        Checks.same("behind the air, at it", loss("chapel 5 loss 7;air 1 when all;"), 0);
        Checks.same("behind the air, below", loss("chapel 5 loss 7;air 2 when all;"), -7);
        Checks.same("behind the rain, at it", loss("chapel 6 loss 7;rain 1 when all;"), 0);
        Checks.same("LEVEL 5 at the bank", loss("bank 5 loss 7;"), 0);
        Checks.same("LEVEL 5 above the bank", loss("bank 4 loss 7;"), -7);
        Checks.same("12 by 2, at it", loss("bank 6 loss 7;rain 1 when all;"), 0);
        Checks.same("13 by 2, at it", loss("bank 6 loss 7;rain 2 when all;"), 0);
        Checks.same("14 by 2, above", loss("bank 6 loss 7;rain 3 when all;"), -7);
        Checks.same("ahead of the air", loss("bank 6 loss 7;rain 3 when all;air 20 when all;"), -7);
        Checks.same("the bank as high as what is held", loss("bank 10 loss 7;rain 9 when all;"), 0);
        Checks.same("21 by 2 is 10", loss("bank 10 loss 7;rain 10 when all;"), 0);
        Checks.same("22 by 2, ahead of what is spilt", loss("bank 10 loss 7;rain 11 when all;"), -7);
        Checks.same("both", loss("bank 4 loss 99;chapel 6 loss 99;"), -198);
        Checks.same("a loss of 0", loss("bank 4 loss 0;chapel 6 loss 0;"), 0);
        Checks.same("a flood and a THING", loss("bank 4 loss 5;thing v gate a from 0 to 0 days 0 to 0 worth 9;"
            + "thing w gate a from 0 to 0 days 0 to 0 worth 9;"), 4);
        NineBoards none = Checks.lake("lake spread 1 holds 20 has 11;bank 4 loss 5;chapel 20 loss 5;");
        Checks.same("without VILLAGES nobody loses", none.act(0), 11);
    }
}
