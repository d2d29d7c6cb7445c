import java.io.IOException;
import java.nio.file.Files;
import java.nio.file.Path;

/** Terms III: plans, floods, nights, laws and images, sentence by sentence; and what stands behind them. */
final class TermsOfPlans {
    private static final int NONE = NineBoards.NONE;
    private static final int NOTHING = NineBoards.NOTHING;
    // The water comes back every DAY, so that flows tell the boards: 10 less them.
    private static final String LAKE = "lake spread 1 holds 99 has 10;gate a plain boards 5 width 1;"
        + "rain 10-water when all;village v gate a;";

    private TermsOfPlans() {
    }

    static void look() throws IOException {
        eachForItself();
        likeOnes();
        allForAll();
        shares();
        withoutVillages();
        beforeAFlood();
        liftedByNight();
        beaver();
        laws();
        draws();
        yearsBeginAsItIsNow();
        images();
        constants();
        partsOfTheFace();
    }

    private static String thing(char village, int flow, String days, int worth) {
        return "thing " + village + " gate a from " + flow + " to " + flow + " days " + days + " worth " + worth + ";";
    }

    /** The ACTS, then what the VILLAGES get. */
    private static void selfish(String text, int n, int... want) {
        NineBoards x = Checks.lake(text);
        for (int k = 0; k < want.length; k++) {
            int what = k < n ? k : 10 + k - n;
            Checks.same("selfish(" + n + ", " + what + ")", x.selfish(n, what), want[k]);
        }
    }

    /** The ACTS, then what is got together, then what the VILLAGES get. */
    private static void common(String text, int n, int... want) {
        NineBoards x = Checks.lake(text);
        for (int k = 0; k < want.length; k++) {
            int what = k < n ? k : 9 + k - n;
            Checks.same("common(" + n + ", " + what + ")", x.common(n, what), want[k]);
        }
    }

    private static void eachForItself() {
        Document.section("Terms");
        Document.says("III. EACH FOR ITSELF for n DAYS (1 .. 6), from now on: on each DAY its VILLAGE takes of ACTS that THE PEACE allows that by which its own WORTH of this DAY and all on to the end is greatest, all others doing likewise on theirs;");
        // To lift gives 2 at once; to be down at 4 on the next DAY gives 5.
        String patient = LAKE + thing('v', 6, "0 to 0", 2) + thing('v', 4, "1 to 1", 5);
        selfish(patient, 1, 1, 2);
        selfish(patient, 2, 0, 2, 5);
        selfish(patient, 0, NOTHING);
        selfish(patient, 7, NOTHING, NOTHING, NOTHING, NOTHING, NOTHING, NOTHING, NOTHING, NOTHING);
        // If v lifts (5), w sets it back (3, and 4 for v); if v rests (4, 3), w sets (9); if v sets, w rests (9, 9).
        String two = LAKE + "village w gate a;" + thing('v', 6, "0 to 999", 5) + thing('v', 5, "0 to 999", 4)
            + thing('w', 5, "0 to 999", 3) + thing('w', 4, "0 to 999", 9);
        selfish(two, 1, 1, 5, 0);
        selfish(two, 2, 1, 2, 9, 3);
        // Every other DAY 6 flow; six of them: lift, then what THE PEACE leaves.
        String one = LAKE + thing('v', 6, "0 to 999", 1) + thing('v', 4, "0 to 999", 1);
        selfish(one, 6, 1, 0, 0, 0, 0, 0, 6);
        // From now on: behind a lift it can't be lifted.
        NineBoards x = TermsOfDays.at(one, 3, 10, 1, 5);
        Checks.same("THE PEACE as it is now", x.selfish(1, 0), 2);
        NineBoards edge = TermsOfDays.at(LAKE + thing('v', 9, "0 to 999", 1), 0, 10, 0, 0);
        Checks.same("no lift of none, a set to 1", edge.selfish(1, 0), 2);
        NineBoards top = TermsOfDays.at("lake spread 1 holds 99 has 30;gate a plain boards 5 width 1;village v gate a;"
            + thing('v', 9, "0 to 999", 1), 0, 30, 0, 20);
        Checks.same("no set above 20", top.selfish(1, 0), 0);
        Checks.same("nothing got", top.selfish(1, 10), 0);
    }

    private static void likeOnes() {
        Document.says("of like ones the least by number (0, 1, 2).");
        selfish(LAKE, 6, 0, 0, 0, 0, 0, 0, 0);
        selfish(LAKE + thing('v', 6, "0 to 0", 1) + thing('v', 4, "0 to 0", 1), 1, 1, 1);
        selfish(LAKE + thing('v', 6, "0 to 0", 1) + thing('v', 5, "0 to 0", 1), 1, 0, 1);
        selfish(LAKE + thing('v', 4, "0 to 0", 1), 1, 2, 1);
        // w gains nothing, so it rests, and v has to lift by itself.
        selfish(LAKE + "village w gate a;" + thing('v', 6, "1 to 1", 5), 2, 1, 0, 5, 0);
    }

    private static void allForAll() {
        Document.says("ALL FOR ALL: the ACTS by which the WORTH of all VILLAGES together is greatest;");
        String two = LAKE + "village w gate a;" + thing('v', 6, "0 to 999", 5) + thing('v', 5, "0 to 999", 4)
            + thing('w', 5, "0 to 999", 3) + thing('w', 4, "0 to 999", 9);
        common(two, 1, 2, 9, 0, 9);
        common(two, 2, 2, 0, 18, 0, 18);
        common(two, 6, 2, 0, 0, 0, 0, 0, 54, 0, 54);
        common(two, 0, NOTHING, NOTHING);
        common(two, 7, NOTHING, NOTHING, NOTHING, NOTHING, NOTHING, NOTHING, NOTHING, NOTHING);
        common(LAKE + "chapel 99 loss 7;village w gate a;", 2, 0, 0, -28, -14, -14);
        Document.says("of like ones the first by numbers, the first DAY first.");
        String late = LAKE + "village w gate a;" + thing('v', 6, "1 to 1", 5);
        common(late, 2, 0, 1, 5, 5, 0);
        common(late, 3, 0, 1, 0, 5, 5, 0);
        common(LAKE, 6, 0, 0, 0, 0, 0, 0, 0, 0);
        common(LAKE + thing('v', 6, "0 to 0", 1) + thing('v', 4, "0 to 0", 1), 2, 1, 0, 1, 1);
    }

    private static void shares(int villages, int worth, int... want) {
        // v lifts for its 1; together they would set for b's worth.
        NineBoards x = Checks.lake("lake spread 1 holds 99 has 10;gate z plain boards 5 width 1;"
            + TermsOfText.times(villages, "village # gate z;") + "rain 10-water when all;"
            + "thing a gate z from 6 to 6 days 0 to 0 worth 1;thing b gate z from 4 to 4 days 0 to 0 worth " + worth
            + ";");
        int sum = 0;
        for (int v = 0; v < villages; v++) {
            Checks.same("share(1, " + v + ") of " + villages + " by " + worth, x.share(1, v), want[v]);
            Checks.holds("nobody is worse", x.share(1, v) >= x.selfish(1, 10 + v));
            sum += x.share(1, v);
        }
        Checks.same("all is shared", sum, x.common(1, 9));
        Checks.same("no such VILLAGE", x.share(1, villages), NOTHING);
    }

    private static void shares() {
        Document.says("SHARES: each has what EACH FOR ITSELF gives it, and floor(the greatest together less that of all of these, together / VILLAGES); the first ones 1 more each until all is shared.");
        shares(2, 1, 1, 0);
        shares(2, 2, 2, 0);
        shares(2, 3, 2, 1);
        shares(3, 2, 2, 0, 0);
        shares(3, 3, 2, 1, 0);
        shares(3, 4, 2, 1, 1);
        shares(3, 5, 3, 1, 1);
        shares(6, 6, 2, 1, 1, 1, 1, 0);
        shares(6, 7, 2, 1, 1, 1, 1, 1);
        shares(6, 8, 3, 1, 1, 1, 1, 1);
        shares(6, 99, 18, 17, 16, 16, 16, 16);
        NineBoards one = Checks.lake(LAKE + thing('v', 6, "0 to 0", 9));
        Checks.same("one alone", one.share(1, 0), 9);
        NineBoards lost = Checks.lake(LAKE + "village w gate a;chapel 99 loss 5;" + thing('v', 6, "0 to 0", 1)
            + thing('w', 4, "0 to 0", 4));
        Checks.same("below 0", lost.share(1, 0), -4 + 2);
        Checks.same("below 0", lost.share(1, 1), -5 + 1);
    }

    private static void withoutVillages() {
        Document.says("(Without VILLAGES ACTS are rests.)");
        NineBoards x = Checks.lake("lake spread 1 holds 99 has 10;gate a plain boards 5 width 1;");
        for (int k = 0; k < 6; k++) {
            Checks.same("selfish(6, " + k + ")", x.selfish(6, k), 0);
            Checks.same("common(6, " + k + ")", x.common(6, k), 0);
        }
        Checks.same("together", x.common(6, 9), 0);
        Checks.same("by none", x.common(6, 10), NOTHING);
        Checks.same("by none", x.selfish(6, 10), NOTHING);
        Checks.same("no SHARE", x.share(6, 0), NOTHING);
        Checks.same("one row", x.rows(12), 1);
        Checks.same("no lift", x.act(1), NONE);
        Checks.same("no set", x.act(2), NONE);
        Checks.same("a rest", x.act(0), 5);
    }

    private static void beforeAFlood() {
        Document.says("  FIRST BEFORE A FLOOD: it may rain so much more on this DAY, by odds of 100: of GATES with boards (joined: both) that by whose one board less (the joined one's, too; THE PEACE does not count) on this DAY, its VILLAGE resting, odds times what is SPILT with that rain and (100 - odds) times what is without, together, is least, the first of like ones.");
        // A board less at a: 5 are left; at b: 3. So 5 more are held anyhow, 6 by b alone.
        String two = "lake spread 1 holds 10 has 10;gate a plain boards 9 width 1;gate b plain boards 9 width 3;"
            + "village v gate a;";
        NineBoards x = Checks.lake(two);
        Checks.same("5 more", x.first(5, 100), 0);
        Checks.same("6 more", x.first(6, 100), 1);
        Checks.same("6 more by odds of 1", x.first(6, 1), 1);
        Checks.same("6 more by no odds", x.first(6, 0), 0);
        NineBoards rain = Checks.lake(two + "rain 6 when all;");
        Checks.same("6 anyhow, none more", rain.first(0, 100), 1);
        Checks.same("6 anyhow, by no odds", rain.first(9999, 0), 1);
        NineBoards less = Checks.lake(two + "rain 5 when all;");
        for (int odds : new int[] {0, 1, 50, 99, 100}) {
            Checks.same("5 anyhow, none more, by odds of " + odds, less.first(0, odds), 0);
        }
        Checks.same("5 anyhow, 1 more", less.first(1, 1), 1);
        // It rains by what is left: 20 by 3, none by 5.
        NineBoards by = Checks.lake(two + "rain 20 when water=3;");
        Checks.same("by what is left", by.first(0, 50), 0);
        // With that rain a spills 13 or 0, b 11 and 0: 25 * 13 and 25 * 11.
        Checks.same("together", Checks.lake(two).first(18, 25), 1);
        NineBoards most = Checks.lake(two + "rain 9999 when all;");
        Checks.same("9999 more than 9999", most.first(9999, 100), 1);
        for (int latest = 0; latest <= 2; latest++) {
            Checks.same("THE PEACE does not count", TermsOfDays.at(two, 0, 10, latest, 9, 9).first(6, 100), 1);
        }
        Checks.same("b without boards", TermsOfDays.at(two, 0, 10, 0, 9, 0).first(6, 100), 0);
        Checks.same("a without boards", TermsOfDays.at(two, 0, 10, 0, 0, 1).first(0, 0), 1);
        Checks.same("both without", TermsOfDays.at(two, 0, 10, 0, 0, 0).first(6, 100), NONE);
        String joined = two + "gate c plain boards 9 width 1;join a c;";
        Checks.same("joined: 2 less at a and c, 3 at b", Checks.lake(joined).first(9, 100), 1);
        Checks.same("joined: both alike, the first", Checks.lake(joined).first(0, 100), 0);
        Checks.same("joined: one without", TermsOfDays.at(joined, 0, 10, 0, 1, 1, 0).first(0, 0), 1);
        Checks.same("joined: the other without", TermsOfDays.at(joined, 0, 10, 0, 0, 1, 1).first(0, 0), 1);
        Checks.same("joined: 1 each", TermsOfDays.at(joined, 0, 10, 0, 1, 1, 1).first(0, 0), 0);
        // By c's joined a: 4 less of width 4 against 3.
        String wide = two + "gate c plain boards 9 width 4;join a c;";
        Checks.same("the joined one's, too", Checks.lake(wide).first(9, 100), 0);
    }

    private static int thief(NineBoards x, int... flows) {
        Checks.put(x, Checks.seen(flows));
        return x.thief();
    }

    private static void liftedByNight() {
        Document.says("  SEEN AT DAWN are FLOWS of all GATES, that DAY's.");
        String text = "lake spread 10 holds 999 has 100;gate a plain boards 5 width 2;"
            + "gate b frozen 3 to 4 boards 8 width 1;"
            + "gate c leaks 3 boards 9 width 1;village v gate a;";
        Checks.same("on DAY 2", thief(TermsOfDays.at(text, 2, 100, 0, 5, 8, 9), 10, 2, 4), 512);
        Checks.same("on DAY 3 b is frozen, and its board tells nothing",
            thief(TermsOfDays.at(text, 3, 100, 0, 5, 8, 9), 10, 0, 4), 512 + 2);
        Checks.same("on DAY 4 as on DAY 2", thief(TermsOfDays.at(text, 4, 100, 0, 5, 8, 9), 10, 2, 4), 0);
        Document.says("LIFTED BY NIGHT can be a GATE with boards (joined: both), if by one board less there (the joined one's, too), all else as it is and today's VILLAGE resting, FLOWS would be these;");
        Checks.same("a", thief(TermsOfDays.at(text, 2, 100, 0, 5, 8, 9), 12, 2, 4), 1);
        Checks.same("b", thief(TermsOfDays.at(text, 2, 100, 0, 5, 8, 9), 10, 3, 4), 2);
        Checks.same("c", thief(TermsOfDays.at(text, 2, 100, 0, 5, 8, 9), 10, 2, 5), 4);
        Checks.same("two of them", thief(TermsOfDays.at(text, 2, 100, 0, 5, 8, 9), 12, 3, 4), 0);
        Checks.same("two boards", thief(TermsOfDays.at(text, 2, 100, 0, 5, 8, 9), 14, 2, 4), 0);
        Checks.same("a board more", thief(TermsOfDays.at(text, 2, 100, 0, 5, 8, 9), 8, 2, 4), 0);
        Checks.same("the last board", thief(TermsOfDays.at(text, 2, 100, 0, 1, 8, 9), 20, 2, 4), 1);
        Checks.same("c's last board: it leaks no more", thief(TermsOfDays.at(text, 2, 100, 0, 5, 8, 1), 10, 2, 10), 4);
        Checks.same("none has boards", thief(TermsOfDays.at(text, 2, 100, 0, 0, 0, 0), 20, 10, 10), 512);
        Checks.same("boards above the LEVEL", thief(TermsOfDays.at(text, 3, 100, 0, 11, 20, 20), 0, 0, 3), 512 + 1 + 2
            + 4);
        String joined = text + "join a c;";
        Checks.same("joined: both bits", thief(TermsOfDays.at(joined, 2, 100, 0, 5, 8, 9), 12, 2, 5), 1 + 4);
        Checks.same("joined: not one alone", thief(TermsOfDays.at(joined, 2, 100, 0, 5, 8, 9), 12, 2, 4), 0);
        Checks.same("joined: one without boards", thief(TermsOfDays.at(joined, 3, 100, 0, 11, 0, 0), 0, 0, 10), 512);
        Checks.same("joined: both with one", thief(TermsOfDays.at(joined, 2, 100, 0, 1, 0, 1), 20, 10, 10), 1 + 4);
        Checks.same("whichever ACT was the latest", thief(TermsOfDays.at(text, 2, 100, 1, 5, 8, 9), 12, 2, 4), 1);
        // What a lifts is not left for b.
        String little = "lake spread 1 holds 99 has 10;gate a plain boards 4 width 1;gate b plain boards 5 width 1;";
        Checks.same("as much as there is", thief(Checks.lake(little), 7, 3), 1);
        Checks.same("b's makes no more", thief(Checks.lake(little), 6, 4), 512 + 2);
        Document.says("that it was no GATE can be, too.");
        Checks.same("no GATE", thief(TermsOfDays.at(text, 2, 100, 0, 5, 8, 9), 10, 2, 4), 512);
        Checks.same("no GATE, or one", thief(TermsOfDays.at(text, 3, 100, 0, 5, 8, 9), 10, 0, 4), 512 + 2);
        Checks.same("neither", thief(TermsOfDays.at(text, 2, 100, 0, 5, 8, 9), 9, 2, 4), 0);
        NineBoards none = Checks.lake("lake spread 1 holds 9 has 9;");
        Checks.same("without GATES", none.thief(), 512);
    }

    private static int beaver(int... flows) {
        NineBoards x = Checks.lake("lake spread 1 holds 999 has 400;gate a plain boards 10 width 1;"
            + "gate b plain boards 20 width 1;gate c plain boards 0 width 1;");
        Checks.put(x, Checks.seen(flows));
        return x.beaver();
    }

    private static void beaver() {
        Document.says("A BEAVER sits at a GATE, if all FLOWS would be these but that its own is less than what it would be.");
        // 390, then the 10 that are left, then none.
        Checks.same("all as they would be", beaver(390, 10, 0), NONE);
        Checks.same("1 less", beaver(389, 10, 0), 0);
        Checks.same("none at all", beaver(0, 10, 0), 0);
        Checks.same("1 more", beaver(391, 10, 0), NONE);
        Checks.same("256 less: the higher byte counts", beaver(134, 10, 0), 0);
        Checks.same("256 more", beaver(646, 10, 0), NONE);
        Checks.same("b 1 less", beaver(390, 9, 0), 1);
        Checks.same("b none", beaver(390, 0, 0), 1);
        Checks.same("what it keeps back does not go on to another", beaver(390, 9, 1), NONE);
        Checks.same("two less", beaver(389, 9, 0), NONE);
        Checks.same("one less, one more", beaver(391, 9, 0), NONE);
        Checks.same("one less, one more", beaver(389, 11, 0), NONE);
        Checks.same("most", beaver(65535, 10, 0), NONE);
        Checks.same("most at another", beaver(389, 10, 65535), NONE);
    }

    /** Years of that lake as it is now, by that seed. */
    private static void years(int law, int boards, int latest, int days) {
        for (int seed = 0; seed < 12; seed++) {
            NineBoards x = TermsOfDays.at(Years.LAKE, 0, 20, latest, boards);
            x.seed(seed);
            new Years(seed, 0, latest, boards).same(x, law, 2, days, seed % 2);
        }
    }

    private static void laws() {
        Document.says("  LAWS: 0 THE PEACE; 1 without what is said of the latest ACT; 2 nobody lifts below 1 board nor sets above 9, else as 1; 3 everybody rests.");
        for (int law = 0; law <= 3; law++) {
            for (int boards : new int[] {0, 1, 2, 5, 8, 9, 10, 11, 19, 20}) {
                years(law, boards, 0, 3);
            }
            years(law, 5, 1, 3);
            years(law, 5, 2, 3);
            years(law, 5, 0, 40);
        }
        // Seed 8 draws a lift, seed 4 a set: the last that may be and the first that may not, told by what is spilt.
        int[][] rows = {{0, 8, 1, 0}, {0, 8, 0, 0}, {1, 8, 1, 0}, {1, 8, 0, 0}, {2, 8, 2, 1}, {2, 8, 1, 1},
            {2, 8, 20, 19},
            {0, 4, 19, 20}, {0, 4, 20, 20}, {1, 4, 19, 20}, {1, 4, 20, 20}, {2, 4, 8, 9}, {2, 4, 9, 9}, {2, 4, 10, 10},
            {2, 4, 0, 1}, {2, 8, 0, 0}, {3, 8, 5, 5}, {3, 4, 5, 5}};
        for (int[] r : rows) {
            NineBoards x = TermsOfDays.at(Years.LAKE, 0, 20, 0, r[2]);
            x.seed(r[1]);
            Checks.same("law " + r[0] + " with " + r[2] + " boards", x.years(r[0], 1, 1, 1), 10 + r[3]);
        }
        // Law 2 looks at the joined one, too. The lake is full and gets 60: so much less what flows is spilt.
        String joined = "lake spread 2 holds 40 has 40;gate a plain boards 5 width 1;gate b plain boards 5 width 1;"
            + "village v gate a;join a b;rain 60 when all;";
        int[][] two = {{1, 8, 15, 1, 60 - 26}, {2, 8, 15, 1, 60 - 24}, {2, 8, 15, 2, 60 - 25}, {1, 4, 8, 9, 60 - 21},
            {2, 4, 8, 9, 60 - 23}, {2, 4, 8, 8, 60 - 22}, {2, 8, 1, 15, 60 - 24}, {2, 4, 9, 8, 60 - 23}};
        for (int[] r : two) {
            NineBoards x = TermsOfDays.at(joined, 0, 40, 0, r[2], r[3]);
            x.seed(r[1]);
            Checks.same("law " + r[0] + " with " + r[2] + " and " + r[3] + " boards", x.years(r[0], 1, 1, 1), r[4]);
        }
    }

    private static void draws() {
        Document.says("A YEAR of n DAYS under a LAW: on each DAY a DRAW of 3: that ACT if the LAW allows it, else a rest.");
        for (int days : new int[] {1, 2, 99, 100}) {
            years(1, 10, 0, days);
            years(0, 10, 0, days);
        }
        // A DRAW that the LAW does not allow is drawn all the same, and under law 3, and without VILLAGES.
        NineBoards x = Checks.lake(Years.LAKE);
        x.seed(8);
        Years due = new Years(8, 0, 0, 5);
        due.same(x, 3, 1, 7, 1);
        due.same(x, 2, 1, 7, 1);
        NineBoards none = Checks.lake("lake spread 1 holds 20 has 20;");
        none.seed(8);
        none.years(0, 1, 7, 0);
        Checks.put(none, Years.LAKE);
        none.lake();
        Years seven = new Years(8, 0, 0, 5);
        seven.due(3, 1, 7, 0);
        seven.same(none, 1, 1, 9, 1);
        Document.says("A DRAW of m: x (the seed) becomes (1103515245 x + 12345) mod 2 to the 31; floor(x / 64) mod m.");
        // 0: 12345, floor(12345 / 64) = 192 = 64 * 3: a rest; 1103527590 by 1: 17242618 mod 3 = 1: a lift.
        NineBoards by = Checks.lake(Years.LAKE);
        by.seed(0);
        Checks.same("seed 0 rests", by.years(1, 1, 1, 1), 15);
        by.seed(1);
        Checks.same("seed 1 lifts", by.years(1, 1, 1, 1), 14);
        // 2: 2207042835 - 2147483648 = 59559187 by wrap-around; / 64 = 930612, mod 3 = 0.
        by.seed(2);
        Checks.same("seed 2 rests", by.years(1, 1, 1, 1), 15);
        for (int seed : new int[] {0, 1, 2, 3, 63, 64, 65, 1 << 30, Integer.MAX_VALUE - 1, Integer.MAX_VALUE}) {
            by.seed(seed);
            new Years(seed, 0, 0, 5).same(by, 1, 1, 100, 1);
        }
    }

    private static void yearsBeginAsItIsNow() {
        Document.says("Each YEAR begins as the lake is now, and the lake stays so; ends on DAY 999 at the latest.");
        NineBoards x = Checks.lake(Years.LAKE);
        x.act(2);
        x.act(0);
        x.image();
        java.util.List<Long> ahead = Looks.at(x);
        Years due = new Years(1, 2, 2, 6);
        for (int law = 0; law <= 3; law++) {
            due.same(x, law, 3, 20, 0);
            due.same(x, law, 3, 20, 1);
        }
        Looks.stay("years", x, ahead);
        Checks.holds("undo", x.undo());
        for (int day : new int[] {898, 899, 900, 990, 997, 998}) {
            NineBoards late = TermsOfDays.at(Years.LAKE, day, 20, 0, 5);
            Years left = new Years(1, day, 0, 5);
            left.same(late, 1, 2, 100, 1);
            left.same(late, 1, 1, 1, 1);
            left.same(late, 1, 2, 100, 0);
            Checks.same("the lake stays", late.has(4), day);
        }
        Checks.same("on DAY 999", TermsOfDays.at(Years.LAKE, 999, 20, 0, 5).years(1, 1, 1, 1), NOTHING);
    }

    private static void images() {
        Document.says("  AN IMAGE: DAY, water (two bytes each, the higher first); the latest ACT that was no rest (0 without); for each GATE its boards; last a byte: all ahead from 67 on, c = (3 c + it) mod 251.");
        String text = "lake spread 1 holds 9999 has 0;gate a plain boards 5 width 1;gate b plain boards 5 width 1;"
            + "village v gate a;";
        int[][] rows = {{0, 0, 0, 0, 0}, {999, 9999, 2, 20, 20}, {255, 255, 1, 1, 0}, {256, 256, 1, 0, 1},
            {257, 511, 0, 19, 3},
            {767, 768, 2, 7, 8}, {3, 1000, 1, 20, 0}};
        for (int[] r : rows) {
            NineBoards x = TermsOfDays.at(text, r[0], r[1], r[2], r[3], r[4]);
            Checks.same("image()", x.image(), 8);
            int[] want = Checks.image(r[0], r[1], r[2], r[3], r[4]);
            for (int k = 0; k < 8; k++) {
                Checks.same("octet(" + k + ")", x.octet(k), want[k]);
            }
        }
        // 67: 201, 603 mod 251 = 101, 303 mod 251 = 52, 156, 468 mod 251 = 217.
        NineBoards none = new NineBoards();
        none.image();
        Checks.same("of five zeros", none.octet(5), 217);
        NineBoards acts = TermsOfDays.at(text, 0, 0, 0, 5, 5);
        acts.act(2);
        acts.act(0);
        acts.image();
        Checks.same("the latest that was no rest", acts.octet(4), 2);
        Document.says("It is taken, if it is such, with as many GATES, joined ones any.");
        NineBoards x = Checks.lake(text + "join a b;");
        int[][] good = {Checks.image(7, 8, 1, 0, 20), Checks.image(7, 8, 1, 20, 0), Checks.image(7, 8, 1, 3, 3)};
        for (int[] data : good) {
            Checks.put(x, data);
            Checks.holds("joined ones any", x.on());
            Checks.same("a's boards", x.gate(0, 1), data[5]);
            Checks.same("b's boards", x.gate(1, 1), data[6]);
        }
        int[][] bad = {Checks.image(7, 8, 1, 3), Checks.image(7, 8, 1, 3, 3, 3), Checks.image(7, 8, 1)};
        for (int[] data : bad) {
            Checks.put(x, data);
            Checks.holds("of other GATES", !x.on());
        }
        int[] data = Checks.image(7, 8, 1, 3, 4);
        for (int k = 0; k < data.length; k++) {
            int[] other = data.clone();
            other[k] ^= 1;
            Checks.put(x, other);
            Checks.holds("byte " + k + " is another", !x.on());
        }
    }

    private static void constants() {
        Document.says("The constants: `NONE = -1`: There is none; it is refused.");
        Checks.same("NONE", NineBoards.NONE, -1);
        Document.says("`NOTHING = -1000000000`: Told where a number below 0 may be one.");
        Checks.same("NOTHING", NineBoards.NOTHING, -1000000000);
    }

    /** The calls stand in the program in the document's order, each part behind its line. */
    private static void parts(String title, String... calls) throws IOException {
        StringBuilder names = new StringBuilder();
        for (String call : calls) {
            names.append(names.length() > 0 ? ", " : "").append('`').append(call).append('`');
        }
        Document.says("Ahead of the calls " + names + " the interface says: ---- " + title + ".");
        String program = Files.readString(Path.of("src/main/java/NineBoards.java"));
        int at = program.indexOf("// ---- " + title + "\n");
        Checks.holds("the line ---- " + title, at >= 0);
        int next = program.indexOf("// ----", at + 1);
        for (String call : calls) {
            int behind = program.indexOf(" " + call + "(", at);
            Checks.holds(call + " is behind " + title, behind > at && (next < 0 || behind < next));
            at = behind;
        }
    }

    private static void partsOfTheFace() throws IOException {
        parts("days", "act", "rest", "undo", "weather", "would", "need", "both", "until", "rows", "today");
        parts("plans", "selfish", "common", "share", "first");
        parts("by night", "steal", "thief", "beaver");
        parts("laws", "seed", "years");
        parts("images", "image", "octet", "on");
    }
}
