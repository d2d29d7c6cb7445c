/** Promises 16 to 22, sentence by sentence: the weather, and what would be. */
final class PromisesOfWonder {
    private static final int NONE = NineBoards.NONE;
    private static final int[] FAR = {Integer.MIN_VALUE, Integer.MAX_VALUE};
    // LEVEL 30; a gets what its boards leave, b the rest of the water, c what is left of that.
    private static final String THREE = "lake spread 1 holds 99 has 30;gate a plain boards 12 width 1;"
        + "gate b plain boards 20 width 1;gate c plain boards 20 width 1;village v gate a;";

    private PromisesOfWonder() {
    }

    static void look() {
        weather();
        weatherRefused();
        would();
        wouldRefused();
        need();
        needWithout();
        both();
        bothOfOneOrJoined();
        bothRefused();
        until();
        untilNot();
        rows();
        rowsRefused();
        today();
        todayRefused();
    }

    private static void weather() {
        Document.section("Promise 16: weather");
        Document.says("What it would rain on a DAY (0 .. 998) at a water (0 .. 9999),");
        NineBoards x = Checks.lake("lake spread 7 holds 9 has 9;rain day+level+water/10 when all;");
        Checks.same("at the least", x.weather(0, 0, false), 0);
        Checks.same("on the last DAY", x.weather(998, 0, false), 998);
        Checks.same("at the most", x.weather(998, 9999, false), 998 + 1428 + 999);
        Checks.same("LEVEL 0", x.weather(0, 6, false), 0);
        Checks.same("LEVEL 1", x.weather(0, 7, false), 1);
        Checks.same("not the DAY and the water that are now", x.weather(5, 10, false), 5 + 1 + 1);
        NineBoards bounds = Checks.lake("lake spread 1 holds 1 has 0;rain 0-1 when day=0;rain 9999 when day=1;"
            + "rain 9999+1 when day=2;");
        Checks.same("below 0", bounds.weather(0, 0, false), 0);
        Checks.same("9999", bounds.weather(1, 0, false), 9999);
        Checks.same("above 9999", bounds.weather(2, 0, false), 9999);
        Checks.same("without", bounds.weather(3, 0, false), 0);
        NineBoards late = TermsOfDays.at("lake spread 1 holds 9 has 9;rain day when all;", 999, 9, 0);
        Checks.same("asked on DAY 999", late.weather(998, 0, false), 998);
        Document.says("or (air true) the air would take;");
        NineBoards air = Checks.lake("lake spread 2 holds 9 has 9;rain 77 when all;air 10-day when day<11;"
            + "air 9999*2 when all;");
        Checks.same("as much as there is", air.weather(0, 9, true), 9);
        Checks.same("just what there is", air.weather(0, 10, true), 10);
        Checks.same("more is there", air.weather(0, 11, true), 10);
        Checks.same("none is there", air.weather(0, 0, true), 0);
        Checks.same("it would take none", air.weather(10, 9999, true), 0);
        Checks.same("9999 at most", air.weather(11, 9999, true), 9999);
        Checks.same("all of 9998", air.weather(11, 9998, true), 9998);
        Checks.same("on the last DAY", air.weather(998, 9999, true), 9999);
        Checks.same("without", Checks.lake("lake spread 1 holds 1 has 1;rain 5 when all;").weather(0, 9999, true), 0);
        Stays.behind("weather(3, 40, false)", 2, z -> z.weather(3, 40, false));
        Stays.behind("weather(3, 40, true)", 4, z -> z.weather(3, 40, true));
    }

    private static void weatherRefused() {
        Document.says("NONE for others.");
        int[][] none = {{-1, 0}, {999, 0}, {0, -1}, {0, 10000}, {-1, -1}, {999, 10000}, {FAR[0], 0}, {FAR[1], 0},
            {0, FAR[0]}, {0, FAR[1]}};
        for (int[] n : none) {
            Stays.behind("weather(" + n[0] + ", " + n[1] + ", false)", NONE, z -> z.weather(n[0], n[1], false));
            Stays.behind("weather(" + n[0] + ", " + n[1] + ", true)", NONE, z -> z.weather(n[0], n[1], true));
        }
    }

    private static void would(NineBoards x, int gate, int... want) {
        for (int boards = 0; boards <= 20; boards++) {
            Checks.same("would(" + gate + ", " + boards + ")", x.would(gate, boards),
                want[Math.min(boards, want.length - 1)]);
        }
    }

    private static void would() {
        Document.section("Promise 17: would");
        Document.says("What would flow today at a GATE that had so many boards (0 .. 20; the joined one likewise), all else as it is, today's VILLAGE resting;");
        NineBoards x = Checks.lake(THREE);
        would(x, 0, 30, 29, 28, 27, 26, 25, 24, 23, 22, 21, 20, 19, 18, 17, 16, 15, 14, 13, 12, 11, 10);
        // a takes 18, so that 12 are left for b, 10 by its 20 boards.
        would(x, 1, 12, 12, 12, 12, 12, 12, 12, 12, 12, 12, 12, 12, 12, 12, 12, 12, 12, 12, 12, 11, 10);
        would(x, 2, 2);
        // c's joined a has as many: at 20 they are 10 each, and b 10 between; at 19, 11, 10 and 9.
        NineBoards joined = Checks.lake(THREE + "join a c;");
        Checks.same("would(2, 20)", joined.would(2, 20), 10);
        Checks.same("would(2, 19)", joined.would(2, 19), 9);
        Checks.same("would(2, 12)", joined.would(2, 12), 2);
        Checks.same("would(2, 11)", joined.would(2, 11), 1);
        Checks.same("would(2, 10)", joined.would(2, 10), 0);
        Checks.same("would(0, 20)", joined.would(0, 20), 10);
        Checks.same("would(1, 0): c as it is", joined.would(1, 0), 12);
        for (int latest = 0; latest <= 2; latest++) {
            Checks.same("whichever ACT was the latest", TermsOfDays.at(THREE, 0, 30, latest, 12, 20, 20).would(0, 11),
                19);
        }
        NineBoards frozen = TermsOfDays.at("lake spread 1 holds 99 has 30;gate a frozen 3 to 3 boards 0 width 1;", 3,
            30, 0, 0);
        would(frozen, 0, 0);
        NineBoards leaks = Checks.lake("lake spread 10 holds 99 has 30;gate a leaks 7 boards 0 width 1;");
        would(leaks, 0, 3, 9, 8, 7, 7);
        NineBoards last = TermsOfDays.at(THREE, 999, 30, 0, 12, 20, 20);
        Checks.same("on DAY 999", last.would(0, 20), 10);
        Stays.behind("would(0, 0)", 10, z -> z.would(0, 0));
        Stays.behind("would(2, 20)", 0, z -> z.would(2, 20));
    }

    private static void wouldRefused() {
        Document.says("NONE when there is none such.");
        int[][] none = {{-1, 0}, {4, 0}, {0, -1}, {0, 21}, {FAR[0], 0}, {FAR[1], 0}, {0, FAR[0]}, {0, FAR[1]}};
        for (int[] n : none) {
            Stays.behind("would(" + n[0] + ", " + n[1] + ")", NONE, z -> z.would(n[0], n[1]));
        }
        Checks.same("without GATES", new NineBoards().would(0, 0), NONE);
        Checks.same("the 9th", Checks.lake(TermsOfText.full()).would(8, 20), 0);
        Checks.same("no 10th", Checks.lake(TermsOfText.full()).would(9, 20), NONE);
    }

    private static String thing(char gate, int from, int to, String days) {
        return "thing v gate " + gate + " from " + from + " to " + to + " days " + days + " worth 1;";
    }

    private static void need() {
        Document.section("Promise 18: need");
        Document.says("The fewest boards (0 .. 20) of its GATE by which a THING is served today as by would();");
        int[][] rows = {{30, 30, 0}, {30, 9999, 0}, {29, 30, 0}, {29, 29, 1}, {0, 29, 1}, {11, 11, 19}, {10, 10, 20},
            {0, 10, 20}, {9, 10, 20}};
        for (int[] r : rows) {
            NineBoards x = Checks.lake(THREE + thing('a', r[0], r[1], "0 to 0"));
            Checks.same("need of " + r[0] + " to " + r[1], x.need(0), r[2]);
        }
        // b gets 12 up to 18 boards.
        Checks.same("b, 12", Checks.lake(THREE + thing('b', 12, 12, "0 to 0")).need(0), 0);
        Checks.same("b, 11", Checks.lake(THREE + thing('b', 11, 11, "0 to 0")).need(0), 19);
        Checks.same("the joined one likewise", Checks.lake(THREE + "join a c;" + thing('c', 1, 1, "0 to 0")).need(0),
            11);
        NineBoards days = TermsOfDays.at(THREE + thing('a', 0, 9999, "4 to 4") + thing('a', 0, 9999, "5 to 6")
            + thing('a', 0, 9999, "3 to 5") + thing('a', 0, 9999, "6 to 7"), 5, 30, 0, 12, 20, 20);
        int[] want = {NONE, 0, 0, NONE};
        for (int t = 0; t < 4; t++) {
            Checks.same("need(" + t + ") on DAY 5", days.need(t), want[t]);
        }
        NineBoards last = TermsOfDays.at(THREE + thing('a', 10, 10, "999 to 999"), 999, 30, 0, 12, 20, 20);
        Checks.same("on DAY 999", last.need(0), 20);
        Stays.behind("need(0)", 0, z -> z.need(0));
    }

    private static void needWithout() {
        Document.says("NONE without, or when there is none such.");
        int[][] rows = {{31, 9999}, {0, 9}, {0, 0}, {9, 9}};
        for (int[] r : rows) {
            NineBoards x = Checks.lake(THREE + thing('a', r[0], r[1], "0 to 0"));
            Checks.same("need of " + r[0] + " to " + r[1], x.need(0), NONE);
        }
        for (int n : new int[] {-1, 2, FAR[0], FAR[1]}) {
            Stays.behind("need(" + n + ")", NONE, z -> z.need(n));
        }
        Checks.same("without THINGS", Checks.lake(THREE).need(0), NONE);
        NineBoards full = Checks.lake(THREE + thing('a', 30, 30, "0 to 0").repeat(16));
        Checks.same("the 16th", full.need(15), 0);
        Checks.same("no 17th", full.need(16), NONE);
    }

    private static void both() {
        Document.section("Promise 19: both");
        Document.says("Whether two unlike THINGS can both be served today, their GATES having some boards (0 .. 20 each; of one GATE, or of joined ones, as many), all else as it is, today's VILLAGE resting: 1, 0;");
        // a 30 less its boards, b 30 less its boards of what is left: b gets 20 by no boards only if a leaves them.
        int[][] rows = {{10, 10, 20, 20, 1}, {10, 10, 21, 21, 0}, {10, 10, 10, 10, 1}, {10, 10, 9, 9, 0},
            {11, 11, 19, 19, 1},
            {11, 11, 20, 20, 0}, {30, 30, 0, 0, 1}, {30, 30, 1, 1, 0}, {29, 29, 1, 1, 1}, {9, 9, 20, 20, 0},
            {31, 31, 0, 0, 0},
            {20, 20, 10, 10, 1}, {21, 21, 9, 9, 1}};
        for (int[] r : rows) {
            NineBoards x = Checks.lake(THREE + thing('a', r[0], r[1], "0 to 0") + thing('b', r[2], r[3], "0 to 0"));
            String what = r[0] + " at a and " + r[2] + " at b";
            Checks.same(what, x.both(0, 1), r[4]);
            Checks.same(what + " the other way", x.both(1, 0), r[4]);
        }
        NineBoards days = TermsOfDays.at(THREE + thing('a', 10, 10, "5 to 5") + thing('b', 10, 10, "5 to 5")
            + thing('b', 10, 10, "4 to 4")
            + thing('b', 10, 10, "6 to 6"), 5, 30, 0, 12, 20, 20);
        Checks.same("both on their DAY", days.both(0, 1), 1);
        Checks.same("the DAY ahead", days.both(0, 2), 0);
        Checks.same("the DAY behind", days.both(0, 3), 0);
        NineBoards third = TermsOfDays.at(THREE + thing('a', 10, 10, "0 to 0") + thing('c', 10, 10, "0 to 0"), 0, 30,
            0, 12, 20, 20);
        Checks.same("b as it is takes 10, and leaves 10", third.both(0, 1), 1);
        NineBoards less = TermsOfDays.at(THREE + thing('a', 10, 10, "0 to 0") + thing('c', 11, 11, "0 to 0"), 0, 30, 0,
            12, 20, 20);
        Checks.same("it leaves no 11", less.both(0, 1), 0);
        // LEVEL 30, and water enough for both: no boards below 0, none above 20.
        String enough = "lake spread 9 holds 999 has 270;gate a plain boards 12 width 1;"
            + "gate b plain boards 12 width 1;village v gate a;";
        int[][] edges = {{30, 30, 1}, {31, 30, 0}, {30, 31, 0}, {10, 10, 1}, {9, 10, 0}, {10, 9, 0}, {10, 30, 1},
            {30, 10, 1}};
        for (int[] r : edges) {
            NineBoards x = Checks.lake(enough + thing('a', r[0], r[0], "0 to 0") + thing('b', r[1], r[1], "0 to 0"));
            Checks.same(r[0] + " at a and " + r[1] + " at b", x.both(0, 1), r[2]);
            NineBoards alike = Checks.lake(enough + "join a b;" + thing('a', r[0], r[0], "0 to 0")
                + thing('b', r[1], r[1], "0 to 0"));
            Checks.same(r[0] + " and " + r[1] + ", joined", alike.both(0, 1), r[0] == r[1] ? r[2] : 0);
        }
        NineBoards last = TermsOfDays.at(THREE + thing('a', 10, 10, "0 to 999") + thing('b', 10, 10, "0 to 999"), 999,
            30, 0, 12, 20, 20);
        Checks.same("on DAY 999", last.both(0, 1), 1);
        Stays.behind("both(0, 1)", 1, z -> z.both(0, 1));
    }

    private static void bothOfOneOrJoined() {
        int[][] rows = {{10, 10, 10, 10, 1}, {10, 10, 11, 11, 0}, {10, 11, 11, 12, 1}, {0, 9, 0, 9, 0},
            {30, 30, 0, 9999, 1}};
        for (int[] r : rows) {
            NineBoards one = Checks.lake(THREE + thing('a', r[0], r[1], "0 to 0") + thing('a', r[2], r[3], "0 to 0"));
            Checks.same("of one GATE " + r[0] + " and " + r[2], one.both(0, 1), r[4]);
        }
        // Joined a and b have as many: 20 and 10 by 10 boards, 15 each by 15, 10 each by 20, 11 each by 19.
        int[][] pairs = {{20, 10, 1}, {15, 15, 1}, {10, 10, 1}, {11, 11, 1}, {20, 9, 0}, {10, 11, 0}, {11, 10, 0},
            {9, 9, 0}, {30, 0, 1}};
        for (int[] r : pairs) {
            NineBoards x = Checks.lake(THREE + "join b a;" + thing('a', r[0], r[0], "0 to 0")
                + thing('b', r[1], r[1], "0 to 0"));
            Checks.same("of joined ones " + r[0] + " and " + r[1], x.both(0, 1), r[2]);
            Checks.same("of joined ones, the other way", x.both(1, 0), r[2]);
        }
        // a's joined c has as many boards as a, and so what it takes is no more there for d.
        String four = "lake spread 1 holds 99 has 30;gate a plain boards 20 width 1;gate c plain boards 20 width 1;"
            + "gate d plain boards 20 width 1;village v gate a;join a c;";
        NineBoards x = Checks.lake(four + thing('a', 12, 12, "0 to 0") + thing('d', 6, 6, "0 to 0")
            + thing('d', 7, 7, "0 to 0"));
        Checks.same("12, 12 and the 6 that are left", x.both(0, 1), 1);
        Checks.same("no 7", x.both(0, 2), 0);
    }

    private static void bothRefused() {
        Document.says("NONE when there are none such.");
        int[][] none = {{0, 0}, {1, 1}, {-1, 0}, {0, -1}, {2, 0}, {0, 2}, {2, 2}, {-1, -1}, {FAR[0], 0}, {FAR[1], 0},
            {0, FAR[0]}, {0, FAR[1]}};
        for (int[] n : none) {
            Stays.behind("both(" + n[0] + ", " + n[1] + ")", NONE, z -> z.both(n[0], n[1]));
        }
        Checks.same("without THINGS", Checks.lake(THREE).both(0, 1), NONE);
        NineBoards full = Checks.lake(THREE + thing('a', 30, 30, "0 to 0").repeat(16));
        Checks.same("the last two", full.both(14, 15), 1);
        Checks.same("no 17th", full.both(0, 16), NONE);
        Checks.same("one alone", Checks.lake(THREE + thing('a', 30, 30, "0 to 0")).both(0, 0), NONE);
    }

    private static void until() {
        Document.section("Promise 20: until");
        Document.says("By rests from now on, the first DAY on which the LEVEL is below (above true: above) so much when it begins: DAY, if it is so now;");
        NineBoards falls = Checks.lake("lake spread 2 holds 99 has 20;air 2 when all;");
        int[][] below = {{FAR[1], 0}, {12, 0}, {11, 0}, {10, 1}, {9, 2}, {1, 10}, {0, NONE}, {-1, NONE},
            {FAR[0], NONE}};
        for (int[] r : below) {
            Checks.same("below " + r[0], falls.until(r[0], false), r[1]);
        }
        NineBoards rises = Checks.lake("lake spread 2 holds 30 has 20;rain 2 when all;");
        int[][] above = {{FAR[0], 0}, {-1, 0}, {9, 0}, {10, 1}, {11, 2}, {14, 5}, {15, NONE}, {16, NONE},
            {FAR[1], NONE}};
        for (int[] r : above) {
            Checks.same("above " + r[0], rises.until(r[0], true), r[1]);
        }
        NineBoards once = TermsOfDays.at("lake spread 1 holds 99 has 0;rain 50 when day=7;air 50 when day=8;", 5, 10,
            0);
        Checks.same("on one DAY alone", once.until(10, true), 8);
        Checks.same("above no more", once.until(59, true), 8);
        Checks.same("not more", once.until(60, true), NONE);
        Checks.same("below again", once.until(10, false), NONE);
        // Rests: nobody acts though it could; by numbers 12 boards hold 12.
        NineBoards rests = TermsOfDays.at("lake spread 1 holds 99 has 0;gate a plain boards 12 width 1;"
            + "village v gate a;", 3, 20, 0, 12);
        Checks.same("down to the boards", rests.until(13, false), 4);
        Checks.same("not below them", rests.until(12, false), NONE);
        Stays.behind("until(10, true)", NONE, z -> z.until(10, true));
        Stays.behind("until(10, false)", 4, z -> z.until(10, false));
    }

    private static void untilNot() {
        Document.says("NONE when not up to 99 DAYS on, or up to DAY 999.");
        String rises = "lake spread 1 holds 9999 has 0;rain 1 when all;";
        NineBoards x = Checks.lake(rises);
        Checks.same("98 DAYS on", x.until(97, true), 98);
        Checks.same("99 DAYS on", x.until(98, true), 99);
        Checks.same("100 DAYS on", x.until(99, true), NONE);
        NineBoards late = TermsOfDays.at(rises, 900, 0, 0);
        Checks.same("98 DAYS on", late.until(97, true), 998);
        Checks.same("99 DAYS on, DAY 999", late.until(98, true), 999);
        Checks.same("100 DAYS on", late.until(99, true), NONE);
        NineBoards later = TermsOfDays.at(rises, 901, 0, 0);
        Checks.same("DAY 999", later.until(97, true), 999);
        Checks.same("beyond DAY 999", later.until(98, true), NONE);
        NineBoards last = TermsOfDays.at(rises, 998, 0, 0);
        Checks.same("now", last.until(1, false), 998);
        Checks.same("DAY 999", last.until(0, true), 999);
        Checks.same("beyond DAY 999", last.until(1, true), NONE);
        Stays.onTheLastDay("until(19, true)", 999, z -> z.until(19, true));
        Stays.onTheLastDay("until(20, true)", NONE, z -> z.until(20, true));
        Stays.onTheLastDay("until(21, false)", 999, z -> z.until(21, false));
        Stays.onTheLastDay("until(20, false)", NONE, z -> z.until(20, false));
    }

    private static void rows() {
        Document.section("Promise 21: rows");
        Document.says("How many rows of ACTS THE PEACE allows for n DAYS (1 .. 12);");
        // Without an edge: rests anywhere, lifts and sets in turn, the first of either kind.
        String text = "lake spread 1 holds 99 has 20;gate a plain boards 5 width 1;village v gate a;";
        for (int n = 1; n <= 12; n++) {
            Checks.same("rows(" + n + ")", Checks.lake(text).rows(n), (2 << n) - 1);
            Checks.same("rows(" + n + ") behind a lift", TermsOfDays.at(text, 0, 20, 1, 5).rows(n), 1 << n);
            Checks.same("rows(" + n + ") behind a set", TermsOfDays.at(text, 0, 20, 2, 5).rows(n), 1 << n);
            // At 0 boards a set must be the first, at 20 a lift.
            Checks.same("rows(" + n + ") of none", TermsOfDays.at(text, 0, 20, 0, 0).rows(n), 1 << n);
            Checks.same("rows(" + n + ") of 20", TermsOfDays.at(text, 0, 20, 0, 20).rows(n), 1 << n);
            Checks.same("rows(" + n + ") of none behind a set", TermsOfDays.at(text, 0, 20, 2, 0).rows(n), 1);
            Checks.same("rows(" + n + ") of 20 behind a lift", TermsOfDays.at(text, 0, 20, 1, 20).rows(n), 1);
            Checks.same("without VILLAGES", Checks.lake("lake spread 1 holds 9 has 9;").rows(n), 1);
        }
        String joined = text + "gate b plain boards 5 width 1;join a b;";
        Checks.same("joined, at both edges", TermsOfDays.at(joined, 0, 20, 0, 0, 20).rows(12), 1);
        Checks.same("joined, one at an edge", TermsOfDays.at(joined, 0, 20, 0, 5, 20).rows(3), 8);
        // v at 0 boards, w at 20: v rests or sets, w rests or lifts.
        String two = text + "gate b plain boards 5 width 1;village w gate b;";
        Checks.same("of two VILLAGES", TermsOfDays.at(two, 0, 20, 0, 0, 20).rows(2), 4);
        Checks.same("of the second first", TermsOfDays.at(two, 1, 20, 0, 0, 20).rows(2), 4);
        Checks.same("of the second behind a lift", TermsOfDays.at(two, 1, 20, 1, 0, 20).rows(2), 2);
        Stays.behind("rows(1)", 2, z -> z.rows(1));
        Stays.behind("rows(3)", 8, z -> z.rows(3));
    }

    private static void rowsRefused() {
        Document.says("NONE when something can't be, or n DAYS would go beyond 999.");
        for (int n : new int[] {0, -1, 13, FAR[0], FAR[1]}) {
            Stays.behind("rows(" + n + ")", NONE, z -> z.rows(n));
        }
        int[][] rows = {{987, 12, 8191}, {988, 12, NONE}, {988, 11, 4095}, {998, 1, 3}, {998, 2, NONE}, {999, 1, NONE}};
        for (int[] r : rows) {
            NineBoards x = TermsOfDays.at("lake spread 1 holds 99 has 20;gate a plain boards 5 width 1;"
                + "village v gate a;", r[0], 20, 0, 5);
            Checks.same("rows(" + r[1] + ") on DAY " + r[0], x.rows(r[1]), r[2]);
        }
    }

    private static int today(String things, int latest, int boards, int village, int what) {
        NineBoards x = TermsOfDays.at("lake spread 1 holds 99 has 10;gate a plain boards 5 width 1;village v gate a;"
            + "village w gate a;"
            + things, 0, 10, latest, boards);
        return x.today(village, what);
    }

    private static void today() {
        Document.section("Promise 22: today");
        Document.says("Of today's ACTS that THE PEACE allows the one by which the WORTH of a VILLAGE today (what 0), the LEVEL tomorrow (1) is greatest, of like ones the least by number;");
        String things = "thing v gate a from 6 to 6 days 0 to 0 worth 3;thing v gate a from 5 to 5 days 0 to 0 worth 2;"
            + "thing w gate a from 4 to 4 days 0 to 0 worth 1;";
        Checks.same("its own", today(things, 0, 5, 0, 0), 1);
        Checks.same("that of another", today(things, 0, 5, 1, 0), 2);
        Checks.same("no lift behind a lift", today(things, 1, 5, 0, 0), 0);
        Checks.same("no set behind a set", today(things, 2, 5, 1, 0), 0);
        Checks.same("of like ones a rest", today("", 0, 5, 0, 0), 0);
        Checks.same("of like ones a lift", today("thing v gate a from 6 to 6 days 0 to 0 worth 3;"
            + "thing v gate a from 4 to 4 days 0 to 0 worth 3;",
            0, 5, 0, 0), 1);
        Checks.same("a THING of tomorrow does not count", today("thing v gate a from 6 to 6 days 1 to 1 worth 3;", 0,
            5, 0, 0), 0);
        Checks.same("no lift of none", today("thing v gate a from 10 to 10 days 0 to 0 worth 3;", 0, 0, 0, 0), 0);
        Checks.same("the last board", today("thing v gate a from 10 to 10 days 0 to 0 worth 3;", 0, 1, 0, 0), 1);
        Checks.same("the least loss", today("chapel 6 loss 9;", 0, 5, 0, 0), 2);
        Checks.same("the LEVEL by a set", today(things, 0, 5, 0, 1), 2);
        Checks.same("the LEVEL by a rest", today(things, 2, 5, 0, 1), 0);
        Checks.same("the LEVEL is 10 anyhow", today("rain 10-water when all;", 0, 5, 0, 1), 0);
        Checks.same("the LEVEL with 10 boards", today("", 0, 10, 0, 1), 0);
        Checks.same("the LEVEL with 9 boards", today("", 0, 9, 0, 1), 2);
        Checks.same("the LEVEL with 20 boards", today("", 0, 20, 0, 1), 0);
        Checks.same("the LEVEL by a lift", today("rain 99 when water=4;", 0, 5, 0, 1), 1);
        NineBoards none = Checks.lake("lake spread 1 holds 99 has 10;");
        Checks.same("without VILLAGES a rest", none.today(0, 1), 0);
        NineBoards second = TermsOfDays.at("lake spread 1 holds 99 has 10;gate a plain boards 5 width 1;"
            + "gate b plain boards 9 width 1;"
            + "village v gate a;village w gate b;thing v gate b from 2 to 2 days 0 to 9 worth 1;", 1, 10, 0, 5, 9);
        Checks.same("what today's VILLAGE does for another", second.today(0, 0), 1);
        NineBoards eve = TermsOfDays.at("lake spread 1 holds 99 has 10;gate a plain boards 5 width 1;"
            + "village v gate a;", 998, 10, 0, 5);
        Checks.same("on DAY 998", eve.today(0, 1), 2);
        Stays.behind("today(1, 0)", 0, z -> z.today(1, 0));
        Stays.behind("today(0, 1)", 0, z -> z.today(0, 1));
    }

    private static void todayRefused() {
        Document.says("NONE on DAY 999, when there is none such (for 1 it is not asked), or for others.");
        Stays.onTheLastDay("today(0, 0)", NONE, z -> z.today(0, 0));
        Stays.onTheLastDay("today(0, 1)", NONE, z -> z.today(0, 1));
        for (int n : new int[] {-1, 2, FAR[0], FAR[1]}) {
            Stays.behind("today(" + n + ", 0)", NONE, z -> z.today(n, 0));
            Stays.behind("today(" + n + ", 1)", 0, z -> z.today(n, 1));
            Stays.behind("today(0, " + n + ")", NONE, z -> z.today(0, n));
        }
        Checks.same("without VILLAGES", new NineBoards().today(0, 0), NONE);
        NineBoards full = Checks.lake(TermsOfText.full());
        Checks.same("the 6th", full.today(5, 0), 0);
        Checks.same("no 7th", full.today(6, 0), NONE);
    }
}
