import java.util.List;

/** Promises 23 to 29, sentence by sentence: plans, a flood, and nights. */
final class PromisesOfPlans {
    private static final int NONE = NineBoards.NONE;
    private static final int NOTHING = NineBoards.NOTHING;
    private static final int[] FAR = {Integer.MIN_VALUE, Integer.MAX_VALUE};
    // Six VILLAGES at one GATE, whose flow is 10 less its boards on every DAY.
    private static final String SIX = "lake spread 1 holds 99 has 10;gate z plain boards 5 width 1;"
        + "rain 10-water when all;"
        + TermsOfText.times(6, "village # gate z;");

    private PromisesOfPlans() {
    }

    static void look() {
        selfish();
        selfishRefused();
        common();
        share();
        first();
        firstRefused();
        steal();
        thief();
        thiefRefused();
        beaver();
    }

    private static String thing(char village, int flow, int day, int worth) {
        return "thing " + village + " gate z from " + flow + " to " + flow + " days " + day + " to " + day + " worth "
            + worth + ";";
    }

    private static void selfish() {
        Document.section("Promise 23: selfish");
        Document.says("EACH FOR ITSELF, n DAYS: the ACT of day k (what k, 0 .. n - 1), or of VILLAGE v what it gets (what 10 and v).");
        // On its DAY each VILLAGE gets something for 6, 5, 4 in turn: lift, set, set is not allowed.
        NineBoards x = Checks.lake(SIX + thing('a', 6, 0, 7) + thing('b', 5, 1, 8) + thing('c', 6, 2, 9)
            + thing('d', 5, 3, 10)
            + thing('e', 6, 4, 11) + thing('f', 5, 5, 12));
        int[] acts = {1, 2, 1, 2, 1, 2};
        for (int n = 1; n <= 6; n++) {
            for (int k = 0; k < n; k++) {
                Checks.same("selfish(" + n + ", " + k + ")", x.selfish(n, k), acts[k]);
            }
            for (int v = 0; v < 6; v++) {
                Checks.same("selfish(" + n + ", " + (10 + v) + ")", x.selfish(n, 10 + v), v < n ? 7 + v : 0);
            }
            Checks.same("no day " + n, x.selfish(n, n), NOTHING);
        }
        NineBoards late = TermsOfDays.at(SIX + thing('e', 6, 4, 11) + thing('f', 4, 5, 1) + thing('a', 6, 6, 3), 4, 10,
            0, 5);
        Checks.same("from now on", late.selfish(3, 0), 1);
        Checks.same("f has to rest or set: 5, not 4", late.selfish(3, 1), 0);
        Checks.same("a gets what it is", late.selfish(3, 10), 3);
        Stays.behind("selfish(6, 0)", 0, z -> z.selfish(6, 0));
        // 4, then nobody keeps the chapel: w has 2 on each of six DAYS and loses 3 on each.
        Stays.behind("selfish(6, 11)", -6, z -> z.selfish(6, 11));
    }

    private static void selfishRefused() {
        Document.says("NOTHING when there is none such, or n DAYS would go beyond 999.");
        int[][] none = {{0, 0}, {-1, 0}, {7, 0}, {7, 10}, {FAR[0], 0}, {FAR[1], 0}, {1, -1}, {1, 1}, {2, 2}, {6, 6},
            {6, 7}, {6, 8}, {6, 9},
            {6, 12}, {1, 12}, {1, FAR[0]}, {1, FAR[1]}, {1, FAR[0] + 10}, {0, 10}};
        for (int[] n : none) {
            Stays.behind("selfish(" + n[0] + ", " + n[1] + ")", NOTHING, z -> z.selfish(n[0], n[1]));
        }
        NineBoards six = Checks.lake(SIX);
        Checks.same("the 6th", six.selfish(1, 15), 0);
        Checks.same("no 7th", six.selfish(1, 16), NOTHING);
        int[][] rows = {{993, 6, 0}, {994, 6, NOTHING}, {994, 5, 0}, {998, 1, 0}, {998, 2, NOTHING}, {999, 1, NOTHING}};
        for (int[] r : rows) {
            NineBoards x = TermsOfDays.at(SIX, r[0], 10, 0, 5);
            Checks.same("selfish(" + r[1] + ", 0) on DAY " + r[0], x.selfish(r[1], 0), r[2]);
            Checks.same("selfish(" + r[1] + ", 10) on DAY " + r[0], x.selfish(r[1], 10), r[2]);
        }
    }

    private static void common() {
        Document.section("Promise 24: common");
        Document.says("ALL FOR ALL, n DAYS: the ACT of day k (what k), all that is got together (what 9), by VILLAGE v (10 and v).");
        // a would lift for 7; together they go down to 4 at once for f's 12 on every DAY.
        StringBuilder text = new StringBuilder(SIX + thing('a', 6, 0, 7));
        for (int day = 0; day < 6; day++) {
            text.append(thing('f', 4, day, 12));
        }
        NineBoards x = Checks.lake(text.toString());
        for (int n = 1; n <= 6; n++) {
            Checks.same("day 0 of " + n, x.common(n, 0), 2);
            for (int k = 1; k < n; k++) {
                Checks.same("day " + k + " of " + n, x.common(n, k), 0);
            }
            Checks.same("together", x.common(n, 9), 12 * n);
            Checks.same("by a", x.common(n, 10), 0);
            Checks.same("by f", x.common(n, 15), 12 * n);
            Checks.same("no day " + n, x.common(n, n), NOTHING);
        }
        Checks.same("each for itself a lifts", x.selfish(1, 0), 1);
        Stays.behind("common(6, 0)", 0, z -> z.common(6, 0));
        Document.says("NOTHING likewise.");
        int[][] none = {{0, 0}, {0, 9}, {-1, 9}, {7, 0}, {7, 9}, {7, 10}, {FAR[0], 9}, {FAR[1], 9}, {1, -1}, {1, 1},
            {2, 2}, {6, 6}, {6, 7},
            {6, 8}, {6, 12}, {1, 12}, {1, FAR[0]}, {1, FAR[1]}};
        for (int[] n : none) {
            Stays.behind("common(" + n[0] + ", " + n[1] + ")", NOTHING, z -> z.common(n[0], n[1]));
        }
        Checks.same("no 7th", x.common(1, 16), NOTHING);
        int[][] rows = {{993, 6, 0}, {994, 6, NOTHING}, {994, 5, 0}, {998, 1, 0}, {998, 2, NOTHING}, {999, 1, NOTHING}};
        for (int[] r : rows) {
            NineBoards late = TermsOfDays.at(SIX, r[0], 10, 0, 5);
            Checks.same("common(" + r[1] + ", 9) on DAY " + r[0], late.common(r[1], 9), r[2]);
            Checks.same("common(" + r[1] + ", 0) on DAY " + r[0], late.common(r[1], 0), r[2]);
        }
    }

    private static void share() {
        Document.section("Promise 25: share");
        Document.says("The SHARE of a VILLAGE, n DAYS;");
        // a lifts for 7, and nobody else gets anything; together 12: 5 more for six.
        NineBoards x = Checks.lake(SIX + thing('a', 6, 0, 7) + thing('f', 4, 0, 12));
        int[] want = {8, 1, 1, 1, 1, 0};
        for (int v = 0; v < 6; v++) {
            Checks.same("share(1, " + v + ")", x.share(1, v), want[v]);
        }
        // Two DAYS: each for itself 7, then what b leaves; together 12, for 4 flow on DAY 0 alone.
        int sum = 0;
        for (int v = 0; v < 6; v++) {
            sum += x.share(2, v);
        }
        Checks.same("all of it", sum, 12);
        Stays.behind("share(1, 0)", 2, z -> z.share(1, 0));
        Document.says("NOTHING likewise.");
        int[][] none = {{0, 0}, {-1, 0}, {7, 0}, {FAR[0], 0}, {FAR[1], 0}, {1, -1}, {1, 2}, {1, 10}, {1, FAR[0]},
            {1, FAR[1]}};
        for (int[] n : none) {
            Stays.behind("share(" + n[0] + ", " + n[1] + ")", NOTHING, z -> z.share(n[0], n[1]));
        }
        Checks.same("no 7th", x.share(1, 6), NOTHING);
        int[][] rows = {{993, 6, 0}, {994, 6, NOTHING}, {998, 1, 0}, {998, 2, NOTHING}, {999, 1, NOTHING}};
        for (int[] r : rows) {
            NineBoards late = TermsOfDays.at(SIX, r[0], 10, 0, 5);
            Checks.same("share(" + r[1] + ", 5) on DAY " + r[0], late.share(r[1], 5), r[2]);
        }
    }

    private static final String FLOOD = "lake spread 1 holds 10 has 10;gate a plain boards 9 width 1;"
        + "gate b plain boards 9 width 3;";

    private static void first() {
        Document.section("Promise 26: first");
        Document.says("FIRST BEFORE A FLOOD of so much rain (0 .. 9999), by odds (0 .. 100): the GATE;");
        NineBoards x = Checks.lake(FLOOD);
        Checks.same("no rain", x.first(0, 0), 0);
        Checks.same("no rain for sure", x.first(0, 100), 0);
        Checks.same("the most rain, never", x.first(9999, 0), 0);
        Checks.same("the most rain for sure", x.first(9999, 100), 1);
        Checks.same("the most rain by 1", x.first(9999, 1), 1);
        Checks.same("the most rain by 99", x.first(9999, 99), 1);
        NineBoards last = TermsOfDays.at(FLOOD, 998, 10, 0, 9, 9);
        Checks.same("on DAY 998", last.first(9999, 100), 1);
        NineBoards full = Checks.lake(TermsOfText.full());
        Checks.same("of nine, dry", full.first(9999, 100), 0);
        String nine = "lake spread 1 holds 10 has 10;" + TermsOfText.times(8, "gate # plain boards 20 width 1;")
            + "gate i plain boards 10 width 1;";
        Checks.same("the 9th", Checks.lake(nine).first(9999, 100), 8);
        Stays.behind("first(50, 50)", 0, z -> z.first(50, 50));
    }

    private static void firstRefused() {
        Document.says("NONE when none has boards, on DAY 999, or something can't be.");
        Checks.same("none has boards", TermsOfDays.at(FLOOD, 0, 10, 0, 0, 0).first(5, 5), NONE);
        Checks.same("one has one", TermsOfDays.at(FLOOD, 0, 10, 0, 0, 1).first(5, 5), 1);
        Checks.same("joined, one has none", TermsOfDays.at(FLOOD + "join a b;", 0, 10, 0, 0, 20).first(5, 5), NONE);
        Checks.same("joined, one each", TermsOfDays.at(FLOOD + "join a b;", 0, 10, 0, 1, 1).first(5, 5), 0);
        Checks.same("without GATES", new NineBoards().first(5, 5), NONE);
        Stays.onTheLastDay("first(5, 5)", NONE, z -> z.first(5, 5));
        int[][] none = {{-1, 50}, {10000, 50}, {50, -1}, {50, 101}, {FAR[0], 50}, {FAR[1], 50}, {50, FAR[0]},
            {50, FAR[1]}};
        for (int[] n : none) {
            Stays.behind("first(" + n[0] + ", " + n[1] + ")", NONE, z -> z.first(n[0], n[1]));
        }
    }

    private static void steal() {
        Document.section("Promise 27: steal");
        Document.says("A board is lifted by night at a GATE (and the joined one): how many boards it has;");
        String text = "lake spread 1 holds 10 has 10;gate a plain boards 20 width 1;gate b plain boards 2 width 1;"
            + "gate c plain boards 9 width 1;join b c;village v gate a;";
        NineBoards x = Checks.lake(text);
        for (int left = 19; left >= 0; left--) {
            Checks.same("steal(0)", x.steal(0), left);
            Checks.same("it has so many", x.gate(0, 1), left);
        }
        Checks.same("steal(2)", x.steal(2), 8);
        Checks.same("the joined one's, too", x.gate(1, 1), 1);
        Checks.same("steal(1)", x.steal(1), 0);
        Checks.same("the joined one's, too", x.gate(2, 1), 7);
        Document.says("NONE when there is none such, or one of them has none.");
        List<Long> ahead = Looks.at(x);
        Checks.same("a has none", x.steal(0), NONE);
        Checks.same("b has none", x.steal(1), NONE);
        Checks.same("c's joined one has none", x.steal(2), NONE);
        Looks.stay("steal", x, ahead);
        for (int n : new int[] {-1, 4, FAR[0], FAR[1]}) {
            Stays.behind("steal(" + n + ")", NONE, z -> z.steal(n));
        }
        Checks.same("without GATES", new NineBoards().steal(0), NONE);
        NineBoards full = Checks.lake(TermsOfText.full());
        Checks.same("the 9th", full.steal(8), 0);
        Checks.same("no 10th", full.steal(9), NONE);
        Document.says("(No ACT, no DAY.)");
        NineBoards y = Checks.lake(text);
        y.act(1);
        y.steal(0);
        y.steal(0);
        Checks.same("no DAY", y.has(4), 1);
        Checks.same("no ACT", y.has(7), 1);
        Checks.same("none more to undo", y.has(8), 1);
        Checks.same("no water went", y.all(3), 9);
        Checks.same("behind a lift, too", y.gate(0, 1), 17);
        Checks.same("v may set", y.village(0, 4), 5);
        NineBoards fresh = Checks.lake(text);
        fresh.steal(0);
        Checks.same("v may do all", fresh.village(0, 4), 7);
        Checks.holds("nothing to undo", !fresh.undo());
        NineBoards last = TermsOfDays.at(text, 999, 10, 0, 5, 5, 5);
        Checks.same("on DAY 999", last.steal(0), 4);
    }

    private static final String NINE = "lake spread 5 holds 9999 has 9000;"
        + TermsOfText.times(8, "gate # plain boards 20 width 1;")
        + "gate i plain boards 9 width 1;";

    private static int[] nine(int last) {
        // LEVEL 1800: 1780 each for four of them (7120), 1780 of the 1880 that are left, then 100, then none.
        return new int[] {1780, 1780, 1780, 1780, 1780, 100, 0, 0, last};
    }

    private static void thief() {
        Document.section("Promise 28: thief");
        Document.says("The tape (it goes), two bytes for each GATE (the higher first): GATES that can have been LIFTED BY NIGHT, as bits (512: none);");
        NineBoards x = Checks.lake(NINE);
        Checks.put(x, Checks.seen(nine(0)));
        // From f on a board less changes nothing.
        Checks.same("no GATE, f, g, h, i", x.thief(), 512 + 32 + 64 + 128 + 256);
        Looks.tape("thief()", x, 0);
        int[] first = nine(0);
        first[0]++;
        first[5]--;
        Checks.put(x, Checks.seen(first));
        Checks.same("a", x.thief(), 1);
        Checks.put(x, Checks.seen(1780, 1780, 1780, 1780, 1780, 100, 0, 0, 256));
        Checks.same("the higher byte of the last", x.thief(), 0);
        Checks.put(x, Checks.seen(1780, 1780, 1780, 1780, 1780, 100, 0, 0, 1));
        Checks.same("the lower byte of the last", x.thief(), 0);
        Checks.put(x, Checks.seen(244, 1780, 1780, 1780, 1780, 100, 0, 0, 0));
        Checks.same("the higher byte of the first", x.thief(), 0);
        NineBoards most = Checks.lake("lake spread 1 holds 9999 has 9999;gate a plain boards 20 width 99;");
        Checks.put(most, Checks.seen(9999));
        Checks.same("the most that can flow", most.thief(), 512 + 1);
        Checks.put(most, Checks.seen(65535));
        Checks.same("the most that can be told", most.thief(), 0);
        NineBoards none = new NineBoards();
        Checks.same("without GATES, no bytes", none.thief(), 512);
        Checks.same("and again", none.thief(), 512);
        NineBoards eve = TermsOfDays.at("lake spread 1 holds 9 has 9;gate a plain boards 8 width 1;", 998, 9, 0, 8);
        Checks.put(eve, Checks.seen(1));
        Checks.same("on DAY 998", eve.thief(), 512);
    }

    private static void thiefRefused() {
        Document.says("NONE when it has not so many bytes, or on DAY 999.");
        for (int bytes : new int[] {0, 1, 7}) {
            NineBoards x = Stays.prepared();
            List<Long> ahead = Looks.at(x);
            x.end(bytes);
            Checks.same("thief() of " + bytes + " bytes", x.thief(), NONE);
            Looks.stay("thief()", x, ahead);
            Looks.tape("thief()", x, 0);
            x.feed(0, 0, 0, 0, 0);
            x.end(bytes);
            Checks.same("beaver() of " + bytes + " bytes", x.beaver(), NONE);
            Looks.stay("beaver()", x, ahead);
            Looks.tape("beaver()", x, 0);
        }
        // A choice of this program: more bytes are not so many either.
        for (int bytes : new int[] {9, 10, 20}) {
            NineBoards x = Stays.prepared();
            x.end(bytes);
            Checks.same("thief() of " + bytes + " bytes", x.thief(), NONE);
            Looks.tape("thief()", x, 0);
        }
        NineBoards none = new NineBoards();
        none.feed(0, 0, 0, 0, 0);
        Checks.same("without GATES, 20 bytes", none.thief(), NONE);
        NineBoards last = TermsOfDays.at("lake spread 1 holds 9 has 9;gate a plain boards 8 width 1;", 999, 9, 0, 8);
        List<Long> ahead = Looks.at(last);
        Checks.put(last, Checks.seen(1));
        Checks.same("thief() on DAY 999", last.thief(), NONE);
        Looks.tape("thief() on DAY 999", last, 0);
        Checks.put(last, Checks.seen(0));
        Checks.same("beaver() on DAY 999", last.beaver(), NONE);
        Looks.tape("beaver() on DAY 999", last, 0);
        Looks.stay("DAY 999", last, ahead);
    }

    private static void beaver() {
        Document.section("Promise 29: beaver");
        Document.says("The tape (it goes), likewise: the GATE at which A BEAVER sits;");
        for (int g = 0; g < 6; g++) {
            NineBoards x = Checks.lake(NINE);
            int[] seen = nine(0);
            seen[g]--;
            Checks.put(x, Checks.seen(seen));
            Checks.same("beaver() at " + g, x.beaver(), g);
            Looks.tape("beaver()", x, 0);
            seen[g] = 0;
            Checks.put(x, Checks.seen(seen));
            Checks.same("beaver() at " + g + ", and none flows", x.beaver(), g);
        }
        NineBoards last = Checks.lake("lake spread 1 holds 99 has 30;"
            + TermsOfText.times(8, "gate # plain boards 20 width 1;")
            + "gate i plain boards 20 width 1;");
        Checks.put(last, Checks.seen(10, 10, 10, 0, 0, 0, 0, 0, 0));
        Checks.same("none", last.beaver(), NONE);
        NineBoards ninth = Checks.lake("lake spread 2 holds 99 has 30;"
            + TermsOfText.times(8, "gate # plain boards 14 width 1;")
            + "gate i plain boards 14 width 1;");
        Checks.put(ninth, Checks.seen(1, 1, 1, 1, 1, 1, 1, 1, 0));
        Checks.same("the 9th", ninth.beaver(), 8);
        Document.says("NONE without, when it has not so many bytes, or on DAY 999.");
        Checks.put(ninth, Checks.seen(1, 1, 1, 1, 1, 1, 1, 1, 1));
        Checks.same("without", ninth.beaver(), NONE);
        Looks.tape("beaver()", ninth, 0);
        Checks.put(ninth, Checks.seen(1, 1, 1, 1, 1, 1, 1, 1));
        Checks.same("two bytes too few", ninth.beaver(), NONE);
        int[] data = Checks.seen(1, 1, 1, 1, 1, 1, 1, 1, 0);
        Checks.put(ninth, java.util.Arrays.copyOf(data, 17));
        Checks.same("a byte too few", ninth.beaver(), NONE);
        Checks.put(ninth, java.util.Arrays.copyOf(data, 19));
        Checks.same("a byte too many", ninth.beaver(), NONE);
        Checks.same("no tape", ninth.beaver(), NONE);
        Checks.same("without GATES", new NineBoards().beaver(), NONE);
        NineBoards eve = TermsOfDays.at("lake spread 1 holds 9 has 9;gate a plain boards 8 width 1;", 998, 9, 0, 8);
        Checks.put(eve, Checks.seen(0));
        Checks.same("on DAY 998", eve.beaver(), 0);
        NineBoards late = TermsOfDays.at("lake spread 1 holds 9 has 9;gate a plain boards 8 width 1;", 999, 9, 0, 8);
        Checks.put(late, Checks.seen(0));
        Checks.same("on DAY 999", late.beaver(), NONE);
    }
}
