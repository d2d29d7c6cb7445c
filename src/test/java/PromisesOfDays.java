import java.util.ArrayList;
import java.util.List;

/** Promises 6 and 8 to 15, sentence by sentence: what there is, days, what is undone. */
final class PromisesOfDays {
    private static final int NONE = NineBoards.NONE;
    private static final int NOTHING = NineBoards.NOTHING;
    private static final int[] FAR = {Integer.MIN_VALUE, Integer.MAX_VALUE};
    private static final String ONE = "lake spread 1 holds 9 has 9;gate a plain boards 4 width 1;village v gate a;"
        + "rain 9-water when all;";

    private PromisesOfDays() {
    }

    static void look() {
        has();
        gate();
        stream();
        all();
        village();
        villagesDay();
        villagesActs();
        served();
        act();
        actRefused();
        rest();
        undo();
        undoInARing();
        undoOfNone();
    }

    private static void has() {
        Document.section("Promise 6: has");
        Document.says("How many there are: 0 GATES, 1 VILLAGES, 2 THINGS, 3 RULES, 4 DAY, 5 water, 6 LEVEL,");
        int[] none = {0, 0, 0, 0, 0, 7, 2};
        NineBoards bare = Checks.lake("lake spread 3 holds 9 has 7;chapel 1 loss 1;");
        for (int k = 0; k < none.length; k++) {
            Checks.same("has(" + k + ") of a lake alone", bare.has(k), none[k]);
        }
        int[] most = {9, 6, 16, 8, 0, 0, 0};
        NineBoards full = Checks.lake(TermsOfText.full());
        for (int k = 0; k < most.length; k++) {
            Checks.same("has(" + k + ") of a full one", full.has(k), most[k]);
        }
        NineBoards late = TermsOfDays.at("lake spread 1 holds 9999 has 0;", 998, 9999, 0);
        late.rest(1);
        Checks.same("the last DAY", late.has(4), 999);
        Checks.same("most water", late.has(5), 9999);
        Checks.same("the highest LEVEL", late.has(6), 9999);
        Document.says("7 the latest ACT that was no rest (0 without), 8 DAYS that can be undone.");
        NineBoards x = Checks.lake(ONE);
        int[] acts = {0, 1, 0, 2, 0, 1};
        int[] latest = {0, 1, 1, 2, 2, 1};
        for (int day = 0; day < acts.length; day++) {
            x.act(acts[day]);
            Checks.same("the latest behind DAY " + day, x.has(7), latest[day]);
            Checks.same("DAYS that can be undone", x.has(8), day + 1);
        }
        x.rest(23);
        Checks.same("29 DAYS", x.has(8), 29);
        x.rest(1);
        Checks.same("30 DAYS", x.has(8), 30);
        x.rest(1);
        Checks.same("31 DAYS, of which 30", x.has(8), 30);
        Checks.same("the latest", x.has(7), 1);
        Document.says("NONE for others.");
        for (int what : new int[] {-1, 9, FAR[0], FAR[1]}) {
            Stays.behind("has(" + what + ")", NONE, z -> z.has(what));
        }
    }

    private static void gate() {
        Document.section("Promise 8: gate");
        Document.says("Of a GATE: 0 KIND (0 plain, 1 leaks, 2 steps, 3 frozen), 1 boards, 2 width, 3 to which it is joined (NONE without),");
        NineBoards x = Checks.lake("lake spread 1 holds 9 has 9;gate a plain boards 0 width 1;"
            + "gate b leaks 1 boards 20 width 99;"
            + "gate c steps 1 boards 1 width 2;gate d frozen 0 to 0 boards 19 width 98;"
            + "gate e plain boards 5 width 5;join d a;join b c;");
        int[][] want = {{0, 0, 1, 3}, {1, 20, 99, 2}, {2, 1, 2, 1}, {3, 19, 98, 0}, {0, 5, 5, NONE}};
        for (int g = 0; g < want.length; g++) {
            for (int k = 0; k < 4; k++) {
                Checks.same("gate(" + g + ", " + k + ")", x.gate(g, k), want[g][k]);
            }
        }
        Document.says("4 what flows today, if today's VILLAGE rests,");
        NineBoards y = Checks.lake(ONE);
        Checks.same("today", y.gate(0, 4), 5);
        y.act(1);
        Checks.same("with a board less", y.gate(0, 4), 6);
        NineBoards frozen = TermsOfDays.at("lake spread 1 holds 9 has 9;gate a frozen 999 to 999 boards 4 width 1;",
            998, 9, 0, 4);
        Checks.same("on DAY 998", frozen.gate(0, 4), 5);
        NineBoards last = TermsOfDays.at("lake spread 1 holds 9 has 9;gate a frozen 999 to 999 boards 4 width 1;", 999,
            9, 0, 4);
        Checks.same("on DAY 999", last.gate(0, 4), 0);
        Stays.behind("gate(0, 4)", 7, z -> z.gate(0, 4));
        Document.says("5 the latest FLOW (0 ahead of any).");
        NineBoards z = Checks.lake(ONE);
        Checks.same("ahead of any", z.gate(0, 5), 0);
        z.act(2);
        Checks.same("the latest", z.gate(0, 5), 4);
        z.steal(0);
        Checks.same("as it was then", z.gate(0, 5), 4);
        z.act(0);
        Checks.same("the latest again", z.gate(0, 5), 5);
        z.undo();
        z.undo();
        Checks.same("ahead of any again", z.gate(0, 5), 0);
        Document.says("NONE when there is none such, or for others.");
        for (int n : new int[] {-1, 4, FAR[0], FAR[1]}) {
            for (int k = 0; k <= 5; k++) {
                Checks.same("gate(" + n + ", " + k + ")", Stays.prepared().gate(n, k), NONE);
            }
        }
        for (int n : new int[] {-1, 6, FAR[0], FAR[1]}) {
            Stays.behind("gate(0, " + n + ")", NONE, q -> q.gate(0, n));
        }
        Checks.same("without GATES", Checks.lake("lake spread 1 holds 9 has 9;").gate(0, 1), NONE);
        Checks.same("the 9th", Checks.lake(TermsOfText.full()).gate(8, 1), 1);
        Checks.same("no 10th", Checks.lake(TermsOfText.full()).gate(9, 1), NONE);
    }

    private static void stream() {
        Document.section("Promise 9: stream");
        Document.says("What went down a GATE's stream so far;");
        NineBoards x = Checks.lake(ONE);
        Checks.same("none so far", x.stream(0), 0);
        x.act(0);
        x.act(1);
        Checks.same("5 and 6", x.stream(0), 11);
        x.undo();
        Checks.same("5 again", x.stream(0), 5);
        NineBoards most = Checks.lake("lake spread 1 holds 9999 has 9999;gate a plain boards 0 width 99;"
            + "rain 9999 when all;");
        for (int k = 0; k < 11; k++) {
            most.rest(99);
        }
        Checks.same("as much as can be", most.stream(0), 9999L * 999);
        Document.says("-1 when there is none such.");
        for (int n : new int[] {-1, 4, FAR[0], FAR[1]}) {
            Stays.behind("stream(" + n + ")", -1, z -> z.stream(n));
        }
        Checks.same("without GATES", new NineBoards().stream(0), -1);
        Checks.same("no 10th", Checks.lake(TermsOfText.full()).stream(9), -1);
    }

    private static void all() {
        Document.section("Promise 10: all");
        Document.says("All water so far that 0 was there at first, 1 rained, 2 was SPILT, 3 went down streams, 4 into the air;");
        NineBoards x = Checks.lake("lake spread 1 holds 20 has 13;gate a plain boards 8 width 1;"
            + "gate b plain boards 12 width 1;"
            + "rain 15 when all;air 4 when all;");
        long[][] want = {{13, 0, 0, 0, 0}, {13, 15, 2, 6, 4}, {13, 30, 2, 18, 8}};
        for (int day = 0; day < 3; day++) {
            for (int k = 0; k < 5; k++) {
                Checks.same("all(" + k + ") on DAY " + day, x.all(k), want[day][k]);
            }
            Checks.same("every drop", x.all(0) + x.all(1) - x.all(2) - x.all(3) - x.all(4), x.has(5));
            x.act(0);
        }
        NineBoards most = Checks.lake("lake spread 1 holds 9999 has 9999;rain 9999 when all;");
        for (int k = 0; k < 11; k++) {
            most.rest(99);
        }
        Checks.same("as much rain as can be", most.all(1), 9999L * 999);
        Checks.same("all of it spilt", most.all(2), 9999L * 999);
        NineBoards air = Checks.lake("lake spread 1 holds 9999 has 9999;rain 9999 when all;air 9999 when all;");
        for (int k = 0; k < 11; k++) {
            air.rest(99);
        }
        Checks.same("as much into the air as can be", air.all(4), 9999L * 999);
        Document.says("-1 for others.");
        for (int n : new int[] {-1, 5, FAR[0], FAR[1]}) {
            Stays.behind("all(" + n + ")", -1, z -> z.all(n));
        }
    }

    private static void village() {
        Document.section("Promise 11: village");
        Document.says("Of a VILLAGE: 0 its GATE, 1 its WORTH so far, 2 its WORTH on the latest DAY (0 ahead of any),");
        NineBoards x = Checks.lake(TermsOfText.full().replace("village vf gate a", "village vf gate i"));
        Checks.same("the first GATE", x.village(0, 0), 0);
        Checks.same("the last GATE", x.village(5, 0), 8);
        NineBoards y = Checks.lake(ONE + "thing v gate a from 5 to 5 days 0 to 9 worth 7;chapel 9 loss 0;"
            + "bank 8 loss 3;");
        int[] acts = {0, 1, 2};
        int[] lately = {4, -3, 4};
        int sum = 0;
        Checks.same("so far none", y.village(0, 1), 0);
        Checks.same("ahead of any", y.village(0, 2), 0);
        for (int day = 0; day < 3; day++) {
            y.act(acts[day]);
            sum += lately[day];
            Checks.same("on DAY " + day, y.village(0, 2), lately[day]);
            Checks.same("up to DAY " + day, y.village(0, 1), sum);
        }
        y.steal(0);
        Checks.same("a night changes none", y.village(0, 2), 4);
        String served = TermsOfText.times(16, "thing v gate a from 0 to 9999 days 0 to 999 worth 99;");
        NineBoards most = Checks.lake(ONE + served);
        NineBoards least = Checks.lake(ONE + "chapel 9999 loss 99;bank 0 loss 99;");
        for (int k = 0; k < 11; k++) {
            most.rest(99);
            least.rest(99);
        }
        Checks.same("as much as can be", most.village(0, 1), 16 * 99 * 999);
        Checks.same("as little as can be", least.village(0, 1), -198 * 999);
    }

    private static void villagesDay() {
        Document.says("3 in how many DAYS it is its DAY (0 today),");
        NineBoards x = Checks.lake(TermsOfText.full());
        for (int day = 0; day < 14; day++) {
            for (int v = 0; v < 6; v++) {
                Checks.same("VILLAGE " + v + " on DAY " + day, x.village(v, 3), (v + 12 * 6 - day) % 6);
            }
            x.rest(1);
        }
        NineBoards one = Checks.lake(ONE);
        Checks.same("one alone", one.village(0, 3), 0);
        one.rest(1);
        Checks.same("one alone on the next DAY", one.village(0, 3), 0);
        NineBoards late = TermsOfDays.at(ONE + "village w gate a;village u gate a;", 998, 9, 0, 4);
        Checks.same("998 modulo 3 is 2", late.village(2, 3), 0);
        Checks.same("the next", late.village(0, 3), 1);
        Checks.same("the one behind it", late.village(1, 3), 2);
    }

    private static void acts(int latest, int boards, int bits) {
        NineBoards x = TermsOfDays.at(ONE + "village w gate a;village u gate a;", 1, 9, latest, boards);
        for (int v = 0; v < 3; v++) {
            Checks.same("behind " + latest + " with " + boards + " boards", x.village(v, 4), bits);
        }
    }

    private static void villagesActs() {
        Document.says("4 ACTS that THE PEACE allows it, were it its DAY (bits 1 rest, 2 lift, 4 set).");
        acts(0, 0, 5);
        acts(0, 1, 7);
        acts(0, 19, 7);
        acts(0, 20, 3);
        acts(1, 0, 5);
        acts(1, 1, 5);
        acts(1, 20, 1);
        acts(2, 0, 1);
        acts(2, 1, 3);
        acts(2, 20, 3);
        Document.says("NOTHING when there is none such, or for others.");
        for (int n : new int[] {-1, 2, FAR[0], FAR[1]}) {
            for (int k = 0; k <= 4; k++) {
                Checks.same("village(" + n + ", " + k + ")", Stays.prepared().village(n, k), NOTHING);
            }
        }
        for (int n : new int[] {-1, 5, FAR[0], FAR[1]}) {
            Stays.behind("village(0, " + n + ")", NOTHING, z -> z.village(0, n));
        }
        Checks.same("without VILLAGES", new NineBoards().village(0, 3), NOTHING);
        Checks.same("no 7th", Checks.lake(TermsOfText.full()).village(6, 0), NOTHING);
    }

    private static void served() {
        Document.section("Promise 12: served");
        Document.says("On how many DAYS so far a THING was served;");
        NineBoards x = Checks.lake(ONE + "thing v gate a from 5 to 5 days 1 to 3 worth 1;"
            + "thing v gate a from 4 to 6 days 0 to 999 worth 1;");
        int[] acts = {0, 0, 1, 2, 0};
        int[] first = {0, 1, 1, 2, 2};
        for (int day = 0; day < acts.length; day++) {
            x.act(acts[day]);
            Checks.same("the first THING behind DAY " + day, x.served(0), first[day]);
            Checks.same("the second THING behind DAY " + day, x.served(1), day + 1);
        }
        x.undo();
        x.undo();
        Checks.same("undone", x.served(0), 1);
        NineBoards most = Checks.lake(ONE + TermsOfText.times(16,
            "thing v gate a from 0 to 9999 days 0 to 999 worth 1;"));
        Checks.same("the last THING, none so far", most.served(15), 0);
        for (int k = 0; k < 11; k++) {
            most.rest(99);
        }
        Checks.same("on all DAYS", most.served(15), 999);
        Document.says("NONE when there is none such.");
        Checks.same("no 17th", most.served(16), NONE);
        Checks.same("without THINGS", Checks.lake(ONE).served(0), NONE);
        for (int n : new int[] {-1, 2, FAR[0], FAR[1]}) {
            Stays.behind("served(" + n + ")", NONE, z -> z.served(n));
        }
    }

    private static void act() {
        Document.section("Promise 13: act");
        Document.says("Today's VILLAGE does an ACT (0 .. 2; without VILLAGES 0 alone), and the DAY goes by: the LEVEL;");
        int[] boards = {4, 3, 5};
        for (int act = 0; act <= 2; act++) {
            NineBoards x = Checks.lake("lake spread 3 holds 30 has 30;gate a plain boards 4 width 1;village v gate a;");
            // LEVEL 10: 6, 7 or 5 flow, and 24, 23 or 25 are left.
            Checks.same("act(" + act + ")", x.act(act), new int[] {8, 7, 8}[act]);
            Checks.same("boards", x.gate(0, 1), boards[act]);
            Checks.same("DAY", x.has(4), 1);
            Checks.same("one can be undone", x.has(8), 1);
        }
        NineBoards dry = Checks.lake("lake spread 3 holds 30 has 2;");
        Checks.same("LEVEL 0", dry.act(0), 0);
        NineBoards none = Checks.lake("lake spread 3 holds 30 has 30;gate a plain boards 4 width 1;");
        Checks.same("without VILLAGES no lift", none.act(1), NONE);
        Checks.same("without VILLAGES no set", none.act(2), NONE);
        Checks.same("nothing went by", none.has(4), 0);
        Checks.same("without VILLAGES a rest", none.act(0), 8);
    }

    private static void actRefused() {
        Document.says("NONE when THE PEACE does not allow it, on DAY 999, or it is none.");
        Stays.behind("act(2) behind a set", NONE, z -> z.act(2));
        for (int n : new int[] {-1, 3, FAR[0], FAR[1]}) {
            Stays.behind("act(" + n + ")", NONE, z -> z.act(n));
        }
        for (int act = -1; act <= 3; act++) {
            int n = act;
            Stays.onTheLastDay("act(" + n + ")", NONE, z -> z.act(n));
        }
        NineBoards low = TermsOfDays.at(ONE, 0, 9, 0, 0);
        List<Long> ahead = Looks.at(low);
        Checks.same("no lift of none", low.act(1), NONE);
        Looks.stay("act(1)", low, ahead);
        NineBoards high = TermsOfDays.at(ONE, 0, 9, 0, 20);
        ahead = Looks.at(high);
        Checks.same("no set above 20", high.act(2), NONE);
        Looks.stay("act(2)", high, ahead);
        NineBoards last = TermsOfDays.at(ONE, 998, 9, 0, 4);
        Checks.same("on DAY 998", last.act(1), 9);
        Checks.same("on DAY 999", last.act(0), NONE);
        Checks.holds("but undone it can be", last.undo());
        Checks.same("and on DAY 998 again", last.act(2), 9);
    }

    private static void rest() {
        Document.section("Promise 14: rest");
        Document.says("n DAYS (1 .. 99) go by with rests: how many did (none beyond DAY 999);");
        for (int n : new int[] {1, 2, 98, 99}) {
            NineBoards x = Checks.lake(ONE);
            Checks.same("rest(" + n + ")", x.rest(n), n);
            Checks.same("DAY", x.has(4), n);
            Checks.same("so much went", x.stream(0), 5 * n);
            Checks.same("so many can be undone", x.has(8), Math.min(30, n));
            Checks.same("no ACT", x.has(7), 0);
            Checks.same("boards", x.gate(0, 1), 4);
        }
        int[][] rows = {{900, 99, 99, 999}, {901, 99, 98, 999}, {900, 98, 98, 998}, {998, 1, 1, 999}, {998, 2, 1, 999},
            {998, 99, 1, 999},
            {999, 1, 0, 999}, {999, 99, 0, 999}};
        for (int[] r : rows) {
            NineBoards x = TermsOfDays.at(ONE, r[0], 9, 1, 4);
            Checks.same("rest(" + r[1] + ") on DAY " + r[0], x.rest(r[1]), r[2]);
            Checks.same("DAY", x.has(4), r[3]);
            Checks.same("so many can be undone", x.has(8), Math.min(30, r[2]));
            Checks.same("the latest ACT stays", x.has(7), 1);
        }
        Document.says("NONE, doing nothing, for others.");
        for (int n : new int[] {0, -1, 100, FAR[0], FAR[1]}) {
            Stays.behind("rest(" + n + ")", NONE, z -> z.rest(n));
            Stays.onTheLastDay("rest(" + n + ")", NONE, z -> z.rest(n));
        }
        Stays.onTheLastDay("rest(1)", 0, z -> z.rest(1));
    }

    /** A look without how many DAYS can be undone. */
    private static List<Long> lookAhead(NineBoards x) {
        List<Long> all = new ArrayList<>(Looks.at(x));
        all.remove(8);
        return all;
    }

    private static void undo() {
        Document.section("Promise 15: undo");
        Document.says("The latest DAY is undone: all is as it was ahead of it (the last 30 DAYS can be): true;");
        NineBoards x = Checks.lake(Stays.LAKE);
        int[] acts = {1, 2, 0, 1, 2};
        List<Long> first = Looks.at(x);
        x.act(acts[0]);
        List<Long> second = Looks.at(x);
        x.act(acts[1]);
        Checks.holds("undo", x.undo());
        Looks.stay("undo()", x, second);
        Checks.holds("undo", x.undo());
        Looks.stay("undo()", x, first);
        Checks.holds("no more", !x.undo());
        // Forty DAYS, of which the last thirty can be undone, one by one.
        NineBoards y = Checks.lake(ONE + "thing v gate a from 5 to 5 days 0 to 20 worth 3;");
        y.rest(9);
        y.act(1);
        List<Long> tenth = lookAhead(y);
        y.rest(10);
        List<Long> twentieth = lookAhead(y);
        y.act(2);
        y.rest(18);
        List<Long> last = lookAhead(y);
        y.act(1);
        Checks.same("DAY 40", y.has(4), 40);
        Checks.holds("undo", y.undo());
        Checks.holds("as on DAY 39", lookAhead(y).equals(last));
        for (int k = 0; k < 19; k++) {
            Checks.holds("undo", y.undo());
        }
        Checks.holds("as on DAY 20", lookAhead(y).equals(twentieth));
        for (int k = 0; k < 10; k++) {
            Checks.same("so many are left", y.has(8), 10 - k);
            Checks.holds("undo", y.undo());
        }
        Checks.holds("as on DAY 10", lookAhead(y).equals(tenth));
        Checks.holds("no 31st", !y.undo());
        Checks.holds("as on DAY 10", lookAhead(y).equals(tenth));
        NineBoards night = Checks.lake(ONE);
        night.steal(0);
        night.act(0);
        night.steal(0);
        Checks.holds("undo", night.undo());
        Checks.same("what was lifted by night ahead of the DAY is, behind it not", night.gate(0, 1), 3);
        NineBoards seed = Checks.lake(Years.LAKE);
        seed.act(0);
        seed.seed(5);
        seed.undo();
        new Years(5, 0, 0, 5).same(seed, 1, 1, 20, 1);
    }

    private static void undoInARing() {
        NineBoards x = Checks.lake(ONE);
        x.rest(45);
        for (int k = 0; k < 20; k++) {
            Checks.holds("undo", x.undo());
        }
        Checks.same("DAY 25", x.has(4), 25);
        Checks.same("10 are left", x.has(8), 10);
        x.act(1);
        x.rest(19);
        Checks.same("30 again", x.has(8), 30);
        x.rest(5);
        Checks.same("no more than 30", x.has(8), 30);
        for (int k = 0; k < 30; k++) {
            Checks.same("boards on DAY " + x.has(4), x.gate(0, 1), x.has(4) > 25 ? 3 : 4);
            Checks.holds("undo", x.undo());
        }
        Checks.same("DAY 20", x.has(4), 20);
        Checks.same("what went so far", x.stream(0), 100);
        Checks.holds("no more", !x.undo());
    }

    private static void undoOfNone() {
        Document.says("false when none can be.");
        NineBoards fresh = new NineBoards();
        Checks.holds("of a new object", !fresh.undo());
        NineBoards x = Checks.lake(ONE);
        List<Long> ahead = Looks.at(x);
        Checks.holds("on DAY 0", !x.undo());
        Looks.stay("undo()", x, ahead);
        x.act(1);
        x.act(2);
        Checks.put(x, ONE);
        x.lake();
        Checks.holds("behind lake()", !x.undo());
        Looks.stay("undo()", x, ahead);
        x.act(1);
        Checks.put(x, Checks.image(5, 9, 1, 4));
        x.on();
        ahead = Looks.at(x);
        Checks.holds("behind on()", !x.undo());
        Looks.stay("undo()", x, ahead);
        x.act(3);
        x.rest(0);
        x.steal(0);
        Checks.holds("what is refused, and a night, is no DAY", !x.undo());
    }
}
