import java.util.List;

/** Promises 30 to 34, sentence by sentence: the seed, years, images. */
final class PromisesOfYears {
    private static final int NONE = NineBoards.NONE;
    private static final int NOTHING = NineBoards.NOTHING;
    private static final int[] FAR = {Integer.MIN_VALUE, Integer.MAX_VALUE};

    private PromisesOfYears() {
    }

    static void look() {
        seed();
        years();
        yearsRefused();
        image();
        octet();
        on();
        onRefused();
    }

    private static void seed() {
        Document.section("Promise 30: seed");
        Document.says("The seed of YEARS: true;");
        NineBoards x = Checks.lake(Years.LAKE);
        for (int seed : new int[] {0, 1, 12345, Integer.MAX_VALUE}) {
            Checks.holds("seed(" + seed + ")", x.seed(seed));
            new Years(seed, 0, 0, 5).same(x, 1, 2, 20, 1);
        }
        Stays.behind("seed(5)", 1, z -> z.seed(5) ? 1 : 0);
        Document.says("false when it is below 0.");
        for (int seed : new int[] {-1, Integer.MIN_VALUE}) {
            x.seed(7);
            Checks.holds("seed(" + seed + ")", !x.seed(seed));
            new Years(7, 0, 0, 5).same(x, 1, 2, 20, 1);
            Stays.behind("seed(" + seed + ")", 0, z -> z.seed(seed) ? 1 : 0);
        }
        Document.says("(It is 1 at first.)");
        NineBoards fresh = Checks.lake(Years.LAKE);
        new Years(1, 0, 0, 5).same(fresh, 1, 2, 50, 1);
    }

    private static void years() {
        Document.section("Promise 31: years");
        Document.says("n YEARS (1 .. 20) of so many DAYS (1 .. 100) under a LAW (0 .. 3), one after the other: WORTH of all VILLAGES together (what 0), what was SPILT (1).");
        int[][] rows = {{1, 1}, {1, 2}, {2, 1}, {1, 100}, {20, 1}, {19, 99}, {20, 100}};
        for (int law = 0; law <= 3; law++) {
            for (int[] r : rows) {
                for (int what = 0; what <= 1; what++) {
                    NineBoards x = Checks.lake(Years.LAKE);
                    new Years(1, 0, 0, 5).same(x, law, r[0], r[1], what);
                }
            }
        }
        // Without a lift or a set 15 are spilt and 11 got on every DAY.
        Checks.same("all rests, spilt", Checks.lake(Years.LAKE).years(3, 20, 100, 1), 15 * 2000);
        Checks.same("all rests, got", Checks.lake(Years.LAKE).years(3, 20, 100, 0), 11 * 2000);
        NineBoards two = Checks.lake(Years.LAKE + "village w gate a;chapel 21 loss 4;");
        Checks.same("of all VILLAGES together", two.years(3, 2, 10, 0), (11 - 4 - 4) * 20);
        NineBoards most = Checks.lake("lake spread 1 holds 9999 has 9999;rain 9999 when all;");
        Checks.same("the most that can be spilt", most.years(0, 20, 100, 1), 9999L * 2000);
        String six = "lake spread 1 holds 9 has 9;gate z plain boards 5 width 1;"
            + TermsOfText.times(6, "village # gate z;");
        NineBoards least = Checks.lake(six + "chapel 9999 loss 99;bank 0 loss 99;rain 9 when all;");
        Checks.same("the least WORTH", least.years(0, 20, 100, 0), -198L * 6 * 2000);
        NineBoards after = Checks.lake(Years.LAKE);
        after.act(0);
        Checks.same("what was spilt ahead does not count", after.years(3, 1, 1, 1), 15);
        Checks.same("nor the WORTH ahead", after.years(3, 1, 1, 0), 11);
    }

    private static void yearsRefused() {
        Document.says("NOTHING when something can't be, or on DAY 999.");
        int[][] none = {{-1, 1, 1, 0}, {4, 1, 1, 0}, {0, 0, 1, 0}, {0, 21, 1, 0}, {0, 1, 0, 0}, {0, 1, 101, 0},
            {0, 1, 1, -1}, {0, 1, 1, 2},
            {FAR[0], 1, 1, 0}, {FAR[1], 1, 1, 0}, {0, FAR[0], 1, 0}, {0, FAR[1], 1, 0}, {0, 1, FAR[0], 0},
            {0, 1, FAR[1], 0}, {0, 1, 1, FAR[0]},
            {0, 1, 1, FAR[1]}, {0, -1, 1, 0}, {0, 1, -1, 0}};
        for (int[] n : none) {
            String call = "years(" + n[0] + ", " + n[1] + ", " + n[2] + ", " + n[3] + ")";
            Stays.behind(call, NOTHING, z -> z.years(n[0], n[1], n[2], n[3]));
            NineBoards x = Checks.lake(Years.LAKE);
            x.seed(9);
            Checks.same(call, x.years(n[0], n[1], n[2], n[3]), NOTHING);
            new Years(9, 0, 0, 5).same(x, 1, 1, 20, 1);
        }
        Stays.onTheLastDay("years(0, 1, 1, 0)", NOTHING, z -> z.years(0, 1, 1, 0));
        NineBoards last = TermsOfDays.at(Years.LAKE, 998, 20, 0, 5);
        last.seed(9);
        Checks.holds("DAY 999", last.act(0) >= 0);
        Checks.same("on DAY 999", last.years(1, 1, 1, 1), NOTHING);
        last.undo();
        new Years(9, 998, 0, 5).same(last, 1, 1, 20, 1);
        Document.says("(Each call draws on.)");
        NineBoards x = Checks.lake(Years.LAKE);
        Years due = new Years(1, 0, 0, 5);
        for (int k = 0; k < 10; k++) {
            due.same(x, k % 4, 1 + k, 5, k % 2);
        }
        NineBoards late = TermsOfDays.at(Years.LAKE, 995, 20, 0, 5);
        Years left = new Years(1, 995, 0, 5);
        left.same(late, 1, 3, 100, 1);
        left.same(late, 1, 3, 2, 1);
    }

    private static void image() {
        Document.section("Promise 32: image");
        Document.says("AN IMAGE is written: how many bytes.");
        Checks.same("without GATES", new NineBoards().image(), 6);
        for (int n = 0; n <= 9; n++) {
            NineBoards x = Checks.lake("lake spread 1 holds 9 has 9;"
                + TermsOfText.times(n, "gate # plain boards 1 width 1;"));
            Checks.same("with " + n + " GATES", x.image(), 6 + n);
            Checks.same("the last byte is there", x.octet(5 + n) >= 0 ? 1 : 0, 1);
            Checks.same("no more", x.octet(6 + n), NONE);
        }
        NineBoards x = Stays.prepared();
        List<Long> ahead = Looks.at(x);
        Checks.same("image()", x.image(), 10);
        List<Long> behind = Looks.at(x);
        int bytes = 15;
        Checks.holds("nothing but the image is another",
            behind.subList(0, behind.size() - bytes).equals(ahead.subList(0, ahead.size() - bytes)));
        Looks.tape("image()", x, Stays.TAPE);
    }

    private static void octets(NineBoards x, int... want) {
        for (int k = 0; k < want.length; k++) {
            Checks.same("octet(" + k + ")", x.octet(k), want[k]);
        }
        Checks.same("octet(" + want.length + ")", x.octet(want.length), NONE);
    }

    private static void octet() {
        Document.section("Promise 33: octet");
        Document.says("Byte k of the latest image();");
        NineBoards x = Checks.lake("lake spread 1 holds 999 has 700;gate a plain boards 20 width 1;"
            + "gate b plain boards 0 width 1;village v gate a;");
        x.image();
        octets(x, Checks.image(0, 700, 0, 20, 0));
        x.act(1);
        x.steal(0);
        octets(x, Checks.image(0, 700, 0, 20, 0));
        x.image();
        octets(x, Checks.image(1, 0, 1, 18, 0));
        x.undo();
        octets(x, Checks.image(1, 0, 1, 18, 0));
        x.image();
        octets(x, Checks.image(0, 700, 0, 20, 0));
        Checks.put(x, "lake spread 1 holds 1 has 1;");
        x.lake();
        octets(x, Checks.image(0, 700, 0, 20, 0));
        x.image();
        octets(x, Checks.image(0, 1, 0));
        Document.says("NONE when there is none such.");
        NineBoards fresh = new NineBoards();
        Checks.same("ahead of any image()", fresh.octet(0), NONE);
        for (int k : new int[] {-1, 10, FAR[0], FAR[1]}) {
            Stays.behind("octet(" + k + ")", NONE, z -> z.octet(k));
        }
        Checks.same("behind a shorter one", x.octet(6), NONE);
    }

    private static void on() {
        Document.section("Promise 34: on");
        Document.says("The tape (it goes) is AN IMAGE: true, DAY, water, boards, the latest ACT are as it tells (nothing has flowed, rained, gone; no WORTH so far, no DAY can be undone; what was there at first is this water);");
        int[][] rows = {{0, 0, 0, 0}, {999, 60, 2, 20}, {1, 1, 1, 1}, {255, 59, 0, 19}, {256, 31, 2, 7},
            {998, 60, 1, 20}};
        for (int[] r : rows) {
            NineBoards x = Stays.prepared();
            Checks.put(x, Checks.image(r[0], r[1], r[2], r[3], 20 - r[3], 3, 4));
            Checks.holds("on()", x.on());
            Looks.tape("on()", x, 0);
            int[] has = {4, 2, 2, 3, r[0], r[1], r[1] / 2, r[2], 0};
            for (int k = 0; k < has.length; k++) {
                Checks.same("has(" + k + ")", x.has(k), has[k]);
            }
            int[] boards = {r[3], 20 - r[3], 3, 4};
            for (int g = 0; g < 4; g++) {
                Checks.same("boards", x.gate(g, 1), boards[g]);
                Checks.same("the latest FLOW", x.gate(g, 5), 0);
                Checks.same("stream", x.stream(g), 0);
            }
            Checks.same("at first", x.all(0), r[1]);
            for (int k = 1; k <= 4; k++) {
                Checks.same("all(" + k + ")", x.all(k), 0);
            }
            for (int v = 0; v < 2; v++) {
                Checks.same("WORTH so far", x.village(v, 1), 0);
                Checks.same("WORTH on the latest DAY", x.village(v, 2), 0);
                Checks.same("served", x.served(v), 0);
            }
            Checks.holds("nothing to undo", !x.undo());
        }
        NineBoards seeds = Checks.lake(Years.LAKE);
        seeds.seed(77);
        Checks.put(seeds, Checks.image(3, 20, 0, 6));
        Checks.holds("on()", seeds.on());
        new Years(77, 3, 0, 6).same(seeds, 1, 1, 20, 1);
        NineBoards nine = Checks.lake(TermsOfText.full());
        Checks.put(nine, Checks.image(999, 5, 2, 20, 0, 1, 2, 3, 4, 5, 6, 20));
        Checks.holds("with 9 GATES", nine.on());
        Checks.same("the last one's boards", nine.gate(8, 1), 20);
        Checks.put(nine, Checks.image(999, 5, 2, 20, 0, 1, 2, 3, 4, 5, 6, 21));
        Checks.holds("21 at the last one", !nine.on());
        // What an image told goes on from there as it did where it was written.
        NineBoards x = Stays.prepared();
        int size = x.image();
        int[] data = new int[size];
        for (int k = 0; k < size; k++) {
            data[k] = x.octet(k);
        }
        NineBoards y = Checks.lake(Stays.LAKE);
        Checks.put(y, data);
        Checks.holds("on()", y.on());
        Checks.same("a DAY", y.act(1), x.act(1));
        for (int g = 0; g < 4; g++) {
            Checks.same("FLOW", y.gate(g, 5), x.gate(g, 5));
        }
        Checks.same("one DAY can be undone", y.has(8), 1);
    }

    private static void refused(int... data) {
        NineBoards x = Stays.prepared();
        List<Long> ahead = Looks.at(x);
        Checks.put(x, data);
        Checks.holds("on() of " + java.util.Arrays.toString(data), !x.on());
        Looks.stay("on()", x, ahead);
        Looks.tape("on()", x, 0);
        Checks.holds("undo", x.undo());
    }

    private static void onRefused() {
        Document.says("false when it is none (DAY 0 .. 999, water up to what the lake holds, boards 0 .. 20, an ACT 0 .. 2; all stays).");
        refused(Checks.image(1000, 10, 1, 1, 2, 3, 4));
        refused(Checks.image(1024, 10, 1, 1, 2, 3, 4));
        refused(Checks.image(65535, 10, 1, 1, 2, 3, 4));
        refused(Checks.image(5, 61, 1, 1, 2, 3, 4));
        refused(Checks.image(5, 316, 1, 1, 2, 3, 4));
        refused(Checks.image(5, 65535, 1, 1, 2, 3, 4));
        refused(Checks.image(5, 10, 3, 1, 2, 3, 4));
        refused(Checks.image(5, 10, 255, 1, 2, 3, 4));
        for (int g = 0; g < 4; g++) {
            for (int boards : new int[] {21, 128, 255}) {
                int[] all = {1, 2, 3, 4};
                all[g] = boards;
                refused(Checks.image(5, 10, 1, all));
            }
        }
        refused(Checks.image(5, 10, 1, 1, 2, 3));
        refused(Checks.image(5, 10, 1, 1, 2, 3, 4, 5));
        refused();
        refused(67);
        int[] good = Checks.image(5, 10, 1, 1, 2, 3, 4);
        for (int by : new int[] {1, 2, 128, 251, 255}) {
            int[] other = good.clone();
            other[9] = other[9] + by & 255;
            refused(other);
        }
        refused(java.util.Arrays.copyOf(good, 9));
        refused(java.util.Arrays.copyOf(good, 11));
        refused(java.util.Arrays.copyOf(good, 20));
        NineBoards most = Checks.lake("lake spread 1 holds 9999 has 0;");
        Checks.put(most, Checks.image(999, 9999, 2));
        Checks.holds("the most of all", most.on());
        Checks.put(most, Checks.image(999, 10000, 2));
        Checks.holds("one more", !most.on());
        NineBoards none = new NineBoards();
        Checks.put(none, Checks.image(0, 0, 0));
        Checks.holds("without GATES", none.on());
        Checks.holds("the tape went", !none.on());
    }
}
