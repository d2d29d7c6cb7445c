import java.util.ArrayList;
import java.util.List;
import java.util.Random;

/**
 * What it is, as the document's first lines say it: what calls have to do with one another, on lakes by chance. Most
 * of it is looked at by letting a twin, made by an image, do what the other one is asked about.
 */
final class WhatItIs {
    private static final int NONE = NineBoards.NONE;
    private static final int LAKES = 150;
    private static final List<String> TEXTS = new ArrayList<>();

    private WhatItIs() {
    }

    static void look() {
        makeTexts();
        Document.section("What it is");
        nineBoards();
        peace();
        worth();
        weather();
        everyDrop();
        plans();
        flood();
        nights();
        yearsUndoneImages();
        calls();
    }

    private static void makeTexts() {
        for (int seed = 0; TEXTS.size() < LAKES; seed++) {
            Texts texts = new Texts(new Random(seed));
            String text = seed % 3 == 0 ? texts.lake() : texts.lively();
            NineBoards x = new NineBoards();
            if (text.length() <= 1600) {
                Checks.put(x, text);
                if (x.lake() != NONE && x.has(0) > 0) {
                    TEXTS.add(text);
                }
            }
        }
    }

    /** The k-th lake behind some DAYS. */
    private static NineBoards begun(int k) {
        Random random = new Random(k);
        NineBoards x = Checks.lake(TEXTS.get(k));
        for (int day = random.nextInt(12); day > 0; day--) {
            x.act(random.nextInt(3));
        }
        return x;
    }

    /** Another object in which it is as in this one, but that nothing has been so far. */
    private static NineBoards twin(int k, NineBoards x) {
        int[] data = new int[x.image()];
        for (int i = 0; i < data.length; i++) {
            data[i] = x.octet(i);
        }
        NineBoards y = Checks.lake(TEXTS.get(k));
        Checks.put(y, data);
        Checks.holds("a twin", y.on());
        return y;
    }

    private static int todays(NineBoards x) {
        return x.has(1) == 0 ? NONE : x.has(4) % x.has(1);
    }

    private static boolean allows(NineBoards x, int act) {
        int v = todays(x);
        return v == NONE ? act == 0 : (x.village(v, 4) >> act & 1) == 1;
    }

    private static int[] boards(NineBoards x) {
        int[] all = new int[x.has(0)];
        for (int g = 0; g < all.length; g++) {
            all[g] = x.gate(g, 1);
        }
        return all;
    }

    private static int[] flows(NineBoards x, int what) {
        int[] all = new int[x.has(0)];
        for (int g = 0; g < all.length; g++) {
            all[g] = x.gate(g, what);
        }
        return all;
    }

    private static long sum(int[] all) {
        long sum = 0;
        for (int n : all) {
            sum += n;
        }
        return sum;
    }

    private static void nineBoards() {
        Document.says("A lake with nine boards: a lake that feeds streams over gates of kinds, each with boards;");
        String[] kinds = {"plain", "leaks 3", "steps 2", "frozen 0 to 0"};
        StringBuilder text = new StringBuilder("lake spread 1 holds 9999 has 4;");
        for (int g = 0; g < 9; g++) {
            text.append("gate g").append((char) ('a' + g)).append(' ').append(kinds[g % 4]);
            text.append(" boards 1 width 1;");
        }
        NineBoards x = Checks.lake(text + "rain 4000 when day=0;");
        Checks.same("nine boards", sum(boards(x)), 9);
        int[] kind = {0, 1, 2, 3, 0, 1, 2, 3, 0};
        // LEVEL 4, HEAD 3: 3, then 1 of the 6 that would flow, and nothing is left.
        int[] scarce = {3, 1, 0, 0, 0, 0, 0, 0, 0};
        // LEVEL 400, HEAD 399.
        int[] plenty = {399, 402, 398, 399, 399, 402, 398, 399, 399};
        for (int g = 0; g < 9; g++) {
            Checks.same("kind", x.gate(g, 0), kind[g]);
            Checks.same("flows while there is water", x.gate(g, 4), scarce[g]);
        }
        Checks.same("LEVEL", x.act(0), 4000);
        Checks.same("3999 at the first alone", x.gate(0, 4), 3999);
        Checks.put(x, text.toString().replace("spread 1", "spread 10"));
        Checks.same("a wider lake", x.lake(), 10);
        Checks.put(x, Checks.image(1, 4000, 0, 1, 1, 1, 1, 1, 1, 1, 1, 1));
        Checks.holds("on()", x.on());
        x.act(0);
        for (int g = 0; g < 9; g++) {
            Checks.same("its stream", x.stream(g), plenty[g]);
            Checks.same("its board", x.steal(g), 0);
            Checks.same("no other", x.steal(g), NONE);
        }
    }

    private static void peace() {
        Document.says("villages that by an old peace may on their day lift or set one board, never the way of the act before;");
        for (int k = 0; k < LAKES; k++) {
            NineBoards x = begun(k);
            Random random = new Random(k);
            for (int day = 0; day < 15; day++) {
                int act = random.nextInt(3);
                int before = x.has(7);
                int[] ahead = boards(x);
                int village = todays(x);
                if (allows(x, act)) {
                    Checks.holds("never the way of the act before", act == 0 || act != before);
                    Checks.holds("it may", x.act(act) >= 0);
                    moved(x, ahead, village, act);
                    Checks.same("the latest", x.has(7), act == 0 ? before : act);
                } else {
                    Checks.same("it may not", x.act(act), NONE);
                    moved(x, ahead, village, 0);
                }
            }
        }
    }

    /** By an ACT one board is less or more at the village's gate and the joined one, and at no other. */
    private static void moved(NineBoards x, int[] ahead, int village, int act) {
        int own = village == NONE ? NONE : x.village(village, 0);
        int by = act == 0 ? 0 : act == 1 ? -1 : 1;
        for (int g = 0; g < ahead.length; g++) {
            boolean moves = own != NONE && (g == own || g == x.gate(own, 3));
            Checks.same("boards of " + g, x.gate(g, 1), ahead[g] + (moves ? by : 0));
            Checks.holds("0 .. 20", x.gate(g, 1) >= 0 && x.gate(g, 1) <= 20);
        }
    }

    private static void worth() {
        Document.says("things that streams serve, a chapel that shows, a bank that is flooded;");
        Random random = new Random(9);
        int shown = 0;
        int floods = 0;
        NineBoards x = Checks.lake(Stays.LAKE.replace("rain 20 ", "rain 60 when day-day/7*7=0;rain 20 "));
        for (int day = 0; day < 40; day++) {
            long rained = x.all(1);
            long streamed = x.all(3);
            int water = x.has(5);
            x.act(allows(x, 1) ? 1 : allows(x, 2) && random.nextBoolean() ? 2 : 0);
            long most = water - (x.all(3) - streamed) + (x.all(1) - rained);
            floods += most / 2 > 24 ? 1 : 0;
            shown += x.has(6) < 5 ? 1 : 0;
            int loss = 3 * shown + 4 * floods;
            Checks.same("v's", x.village(0, 1), 5 * x.served(0) - loss);
            Checks.same("w's", x.village(1, 1), 2 * x.served(1) - loss);
        }
        Checks.holds("the chapel showed: " + shown, shown > 0 && shown < 40);
        Checks.holds("the bank was flooded: " + floods, floods > 0 && floods < 40);
        Checks.holds("something was served", x.served(0) > 0 && x.served(1) > 0 && x.served(0) < 10);
    }

    private static void weather() {
        Document.says("rain and air by rules, told as a text;");
        for (int k = 0; k < LAKES; k++) {
            NineBoards x = begun(k);
            for (int n = 0; n < 10; n++) {
                int day = x.has(4);
                int left = x.has(5) - (int) sum(flows(x, 4));
                long rained = x.all(1);
                long spilt = x.all(2);
                long gone = x.all(4);
                x.act(0);
                Checks.same("rain", x.all(1) - rained, x.weather(day, left, false));
                int held = left + (int) (x.all(1) - rained) - (int) (x.all(2) - spilt);
                Checks.same("air", x.all(4) - gone, x.weather(day, held, true));
            }
        }
    }

    private static void everyDrop() {
        Document.says("day by day what flows where, with every drop counted;");
        for (int k = 0; k < LAKES; k++) {
            NineBoards x = begun(k);
            Random random = new Random(k);
            for (int n = 0; n < 15; n++) {
                int[] ahead = flows(x, 4);
                long streamed = x.all(3);
                boolean rests = x.act(1 + random.nextInt(2)) == NONE;
                if (rests) {
                    x.act(0);
                }
                int[] behind = flows(x, 5);
                for (int g = 0; rests && g < ahead.length; g++) {
                    Checks.same("what flows by a rest", behind[g], ahead[g]);
                }
                long streams = 0;
                for (int g = 0; g < ahead.length; g++) {
                    streams += x.stream(g);
                }
                Checks.same("streams of the DAY", sum(behind), x.all(3) - streamed);
                Checks.same("streams so far", streams, x.all(3));
                Checks.same("what is there", x.all(0) + x.all(1) - x.all(2) - x.all(3) - x.all(4), x.has(5));
            }
        }
    }

    private static void plans() {
        Document.says("what a village does best when each goes by its own worth, what all would do for all, shares that leave nobody worse;");
        for (int k = 0; k < LAKES; k++) {
            NineBoards x = begun(k);
            int n = 1 + k % 6;
            int villages = x.has(1);
            NineBoards apart = twin(k, x);
            NineBoards together = twin(k, x);
            for (int day = 0; day < n; day++) {
                Checks.holds("THE PEACE allows it", apart.act(x.selfish(n, day)) >= 0);
                Checks.holds("THE PEACE allows it", together.act(x.common(n, day)) >= 0);
            }
            int gotApart = 0;
            int gotTogether = 0;
            int shared = 0;
            for (int v = 0; v < villages; v++) {
                Checks.same("what each for itself gets", apart.village(v, 1), x.selfish(n, 10 + v));
                Checks.same("what all for all gets", together.village(v, 1), x.common(n, 10 + v));
                Checks.holds("nobody is worse", x.share(n, v) >= x.selfish(n, 10 + v));
                gotApart += x.selfish(n, 10 + v);
                gotTogether += x.common(n, 10 + v);
                shared += x.share(n, v);
            }
            Checks.same("together", x.common(n, 9), gotTogether);
            Checks.holds("none is greater", gotTogether >= gotApart);
            Checks.same("all is shared", shared, villages == 0 ? 0 : gotTogether);
            noOtherActIsBetter(k, x, n);
        }
    }

    /** Whatever today's village did else, with all going on likewise: it would not get more, nor would all. */
    private static void noOtherActIsBetter(int k, NineBoards x, int n) {
        int v = todays(x);
        for (int act = 0; v != NONE && act < 3; act++) {
            NineBoards other = twin(k, x);
            if (other.act(act) != NONE) {
                int own = other.village(v, 1) + (n > 1 ? other.selfish(n - 1, 10 + v) : 0);
                int all = n > 1 ? other.common(n - 1, 9) : 0;
                for (int w = 0; w < x.has(1); w++) {
                    all += other.village(w, 1);
                }
                boolean earlier = act < x.selfish(n, 0);
                boolean better = x.selfish(n, 10 + v) - own >= (earlier ? 1 : 0);
                Checks.holds("by another ACT it gets no more", better);
                boolean first = act < x.common(n, 0);
                Checks.holds("by another ACT all get no more", x.common(n, 9) - all >= (first ? 1 : 0));
            }
        }
    }

    private static void flood() {
        Document.says("which gate to lift first before a flood by odds;");
        for (int k = 0; k < LAKES; k++) {
            NineBoards x = begun(k);
            Random random = new Random(k);
            int rain = random.nextInt(random.nextBoolean() ? 200 : 10000);
            int odds = random.nextInt(101);
            int best = NONE;
            long least = Long.MAX_VALUE;
            for (int g = 0; g < x.has(0); g++) {
                NineBoards y = twin(k, x);
                if (y.steal(g) != NONE) {
                    y.act(0);
                    // What would be there ahead of what is spilt; so much rain more comes to that.
                    long ahead = y.has(5) + y.all(4) + y.all(2);
                    long holds = most(k);
                    long spilt = odds * Math.max(0, ahead + rain - holds) + (100 - odds) * y.all(2);
                    best = spilt < least ? g : best;
                    least = Math.min(least, spilt);
                }
            }
            Checks.same("first(" + rain + ", " + odds + ")", x.first(rain, odds), best);
        }
    }

    /** What the k-th lake holds, by its text. */
    private static long most(int k) {
        String text = TEXTS.get(k);
        String[] pieces = text.substring(text.indexOf("holds") + 5).strip().split("[^0-9]+", 2);
        return Long.parseLong(pieces[0]);
    }

    private static void nights() {
        Document.says("whose board was lifted by night, where a beaver sits, by streams seen at dawn;");
        for (int k = 0; k < LAKES; k++) {
            NineBoards x = begun(k);
            Checks.put(x, Checks.seen(flows(x, 4)));
            Checks.same("nobody's, maybe", x.thief() & 512, 512);
            for (int g = 0; g < x.has(0); g++) {
                NineBoards y = twin(k, x);
                if (y.steal(g) != NONE) {
                    int[] seen = flows(y, 4);
                    Checks.put(x, Checks.seen(seen));
                    int bits = x.thief();
                    Checks.same("the one that it was is among them", bits >> g & 1, 1);
                    Checks.same("nobody's", bits >> 9, java.util.Arrays.equals(seen, flows(x, 4)) ? 1 : 0);
                }
                int[] seen = flows(x, 4);
                boolean flows = seen[g] > 0;
                seen[g] = flows ? seen[g] - 1 : 0;
                Checks.put(x, Checks.seen(seen));
                Checks.same("a beaver at " + g, x.beaver(), flows ? g : NONE);
            }
        }
    }

    private static void yearsUndoneImages() {
        Document.says("years under other laws by a seed; acts undone; images.");
        for (int k = 0; k < LAKES; k++) {
            NineBoards x = begun(k);
            x.image();
            List<Long> ahead = Looks.at(x);
            long[] some = {x.years(0, 2, 20, 0), x.years(1, 2, 20, 0), x.years(2, 2, 20, 1), x.years(3, 3, 20, 1)};
            Looks.stay("years", x, ahead);
            NineBoards y = twin(k, x);
            long[] again = {y.years(0, 2, 20, 0), y.years(1, 2, 20, 0), y.years(2, 2, 20, 1), y.years(3, 3, 20, 1)};
            Checks.holds("the same years by the same seed", java.util.Arrays.equals(some, again));
            x.act(1);
            x.act(2);
            // All of these DAYS and those ahead are among the last 30.
            x.rest(15);
            while (x.has(4) > y.has(4)) {
                Checks.holds("undone", x.undo());
            }
            Looks.stay("DAYS undone", x, ahead);
            Checks.same("everybody rests", y.rest(20), 20);
            Checks.same("what was spilt", some[3], 3 * y.all(2));
            x.rest(20);
            Checks.same("as the image tells, so it goes on", x.has(5), y.has(5));
            Checks.same("by as much rain", x.all(1) - ahead.get(10), y.all(1));
        }
    }

    private static void calls() {
        Document.says("An object is used for at most 512 calls after it has been made; what later calls answer is free.");
        NineBoards x = new NineBoards();
        int[] text = Checks.bytes(Stays.LAKE);
        int calls = 0;
        for (int k = 0; k < text.length; k += 20) {
            x.feed(Checks.four(text, k), Checks.four(text, k + 4), Checks.four(text, k + 8), Checks.four(text, k + 12),
                Checks.four(text, k + 16));
            calls++;
        }
        x.end(text.length);
        x.lake();
        int level = x.act(1);
        calls += 3;
        while (calls < 510) {
            Checks.holds("undone", x.undo());
            Checks.same("a DAY again", x.act(1), level);
            calls += 2;
        }
        Checks.same("the latest calls of all", x.has(6), level);
        Checks.same("this DAY, too", x.has(4), 1);
    }
}
