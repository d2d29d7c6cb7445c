import java.util.Random;

/** Random runs of calls, each answer held against the model's. */
public final class ModelTest {
    private static final int RUNS = 1500;
    private final Random random;
    private final NineBoards x = new NineBoards();
    private final Model m = new Model();
    private final StringBuilder run = new StringBuilder();
    private int gates;
    private int villages;
    private int things;

    private ModelTest(long seed) {
        random = new Random(seed);
    }

    public static void main(String[] args) {
        int runs = args.length > 0 ? Integer.parseInt(args[0]) : RUNS;
        for (int seed = 0; seed < runs; seed++) {
            ModelTest test = new ModelTest(seed);
            test.calls();
            if (Checks.wrongSoFar() > 0) {
                System.out.println("seed " + seed + ", the run:\n" + test.run);
                break;
            }
        }
        Checks.finish("ModelTest");
    }

    private void due(String call, long got, long want) {
        run.append(call).append(" -> ").append(got).append('\n');
        Checks.same(call, got, want);
    }

    private void due(String call, boolean got, boolean want) {
        due(call, got ? 1 : 0, want ? 1 : 0);
    }

    private int upTo(int n) {
        return random.nextInt(n + 1);
    }

    /** Mostly from low to high, now and then just beside, now and then anything. */
    private int about(int low, int high) {
        int sort = random.nextInt(40);
        if (sort == 0) {
            return low - 1;
        }
        if (sort == 1) {
            return high + 1;
        }
        if (sort == 2) {
            int[] far = {Integer.MIN_VALUE, Integer.MAX_VALUE, random.nextInt()};
            return far[random.nextInt(3)];
        }
        long span = (long) high - low + 1;
        return span < 1 || span > Integer.MAX_VALUE ? low : low + random.nextInt((int) span);
    }

    private void calls() {
        int most = 60 + upTo(120);
        tell();
        for (int k = 0; k < most && Checks.wrongSoFar() == 0; k++) {
            if (upTo(40) == 0) {
                tell();
            }
            switch (upTo(8)) {
                case 0:
                    asks();
                    break;
                case 1:
                case 2:
                    goes();
                    break;
                case 3:
                    wonders();
                    break;
                case 4:
                    plans();
                    break;
                case 5:
                    nights();
                    break;
                case 6:
                    laws();
                    break;
                case 7:
                    images();
                    break;
                default:
                    looks();
                    break;
            }
        }
        looks();
    }

    private void tell() {
        String text = upTo(1) == 0 ? new Texts(random).lively() : new Texts(random).lake();
        if (upTo(2) == 0) {
            text = new Texts(random).spoiled(text);
        }
        if (text.length() > 1600) {
            text = text.substring(0, 1600);
        }
        run.append("text: ").append(text).append('\n');
        put(Checks.bytes(text));
        due("lake()", x.lake(), m.lake());
        due("fault(0)", x.fault(0), m.fault(0));
        due("fault(1)", x.fault(1), m.fault(1));
        gates = m.has(0);
        villages = m.has(1);
        things = m.has(2);
    }

    private void put(int... data) {
        due("end(0)", x.end(0), m.end(0));
        for (int k = 0; k < data.length; k += 20) {
            int a = Checks.four(data, k);
            int b = Checks.four(data, k + 4);
            int c = Checks.four(data, k + 8);
            int d = Checks.four(data, k + 12);
            int e = Checks.four(data, k + 16);
            due("feed", x.feed(a, b, c, d, e), m.feed(a, b, c, d, e));
        }
        due("end(" + data.length + ")", x.end(data.length), m.end(data.length));
    }

    private void looks() {
        for (int k = -1; k <= 9; k++) {
            due("has(" + k + ")", x.has(k), m.has(k));
            due("all(" + k + ")", x.all(k), m.all(k));
            due("fault(" + k + ")", x.fault(k), m.fault(k));
        }
        for (int g = -1; g <= gates; g++) {
            due("stream(" + g + ")", x.stream(g), m.stream(g));
            for (int k = -1; k <= 6; k++) {
                due("gate(" + g + ", " + k + ")", x.gate(g, k), m.gate(g, k));
                due("letter(0, " + g + ", " + k + ")", x.letter(0, g, k), m.letter(0, g, k));
            }
        }
        for (int v = -1; v <= villages; v++) {
            for (int k = -1; k <= 6; k++) {
                due("village(" + v + ", " + k + ")", x.village(v, k), m.village(v, k));
                due("letter(1, " + v + ", " + k + ")", x.letter(1, v, k), m.letter(1, v, k));
            }
        }
        for (int t = -1; t <= things; t++) {
            due("served(" + t + ")", x.served(t), m.served(t));
        }
        long left = x.all(0) + x.all(1) - x.all(2) - x.all(3) - x.all(4);
        due("every drop", left, x.has(5));
    }

    private void asks() {
        int a = about(0, 9);
        int b = about(0, 6);
        int c = about(0, 5);
        int k = about(0, 1);
        due("has(" + a + ")", x.has(a), m.has(a));
        due("all(" + b + ")", x.all(b), m.all(b));
        due("gate(" + a + ", " + b + ")", x.gate(a, b), m.gate(a, b));
        due("stream(" + a + ")", x.stream(a), m.stream(a));
        due("village(" + b + ", " + c + ")", x.village(b, c), m.village(b, c));
        due("letter(" + k + ", " + b + ", " + c + ")", x.letter(k, b, c), m.letter(k, b, c));
        due("served(" + a + ")", x.served(a), m.served(a));
        due("fault(" + b + ")", x.fault(b), m.fault(b));
        int n = about(0, 1600);
        if (upTo(9) == 0) {
            due("end(" + n + ")", x.end(n), m.end(n));
        }
    }

    private void goes() {
        int sort = upTo(9);
        if (sort == 0) {
            int n = upTo(3) == 0 ? about(1, 99) : 1 + upTo(8);
            due("rest(" + n + ")", x.rest(n), m.rest(n));
        } else if (sort == 1) {
            for (int k = upTo(4); k >= 0; k--) {
                due("undo()", x.undo(), m.undo());
            }
        } else {
            int act = about(0, 2);
            due("act(" + act + ")", x.act(act), m.act(act));
        }
    }

    private void wonders() {
        int day = about(0, 998);
        int water = about(0, 9999);
        due("weather(" + day + ", " + water + ")", x.weather(day, water, false), m.weather(day, water, false));
        due("weather air(" + day + ", " + water + ")", x.weather(day, water, true), m.weather(day, water, true));
        int gate = about(0, gates - 1);
        int boards = about(0, 20);
        due("would(" + gate + ", " + boards + ")", x.would(gate, boards), m.would(gate, boards));
        int one = about(0, things - 1);
        int two = about(0, things - 1);
        due("need(" + one + ")", x.need(one), m.need(one));
        due("both(" + one + ", " + two + ")", x.both(one, two), m.both(one, two));
        int level = upTo(3) == 0 ? about(0, 9999) : x.has(6) + upTo(6) - 3;
        due("until(" + level + ", true)", x.until(level, true), m.until(level, true));
        due("until(" + level + ", false)", x.until(level, false), m.until(level, false));
        int n = upTo(30) == 0 ? about(1, 12) : about(1, 6);
        due("rows(" + n + ")", x.rows(n), m.rows(n));
        int v = about(0, villages - 1);
        int what = about(0, 1);
        due("today(" + v + ", " + what + ")", x.today(v, what), m.today(v, what));
    }

    private void plans() {
        int n = upTo(9) == 0 ? about(1, 6) : about(1, 4);
        int what = upTo(1) == 0 ? about(0, n) : about(9, 10 + villages);
        due("selfish(" + n + ", " + what + ")", x.selfish(n, what), m.selfish(n, what));
        due("common(" + n + ", " + what + ")", x.common(n, what), m.common(n, what));
        int v = about(0, villages - 1);
        due("share(" + n + ", " + v + ")", x.share(n, v), m.share(n, v));
        int rain = about(0, upTo(1) == 0 ? 50 : 9999);
        int odds = about(0, 100);
        due("first(" + rain + ", " + odds + ")", x.first(rain, odds), m.first(rain, odds));
    }

    private void nights() {
        if (upTo(2) == 0) {
            int gate = about(0, gates - 1);
            due("steal(" + gate + ")", x.steal(gate), m.steal(gate));
        }
        for (int night = 0; night < 2; night++) {
            int[] seen = new int[Math.max(0, 2 * gates + (upTo(9) == 0 ? upTo(2) - 1 : 0))];
            int lifted = upTo(3);
            for (int g = 0; g < gates && 2 * g + 1 < seen.length; g++) {
                int flow = lifted == g ? x.would(g, Math.max(0, x.gate(g, 1) - 1)) : x.gate(g, 4);
                flow -= upTo(5) == 0 ? upTo(3) - 1 : 0;
                flow = Math.max(0, flow);
                seen[2 * g] = flow >> 8;
                seen[2 * g + 1] = flow & 255;
            }
            put(seen);
            if (night == 0) {
                due("thief()", x.thief(), m.thief());
            } else {
                due("beaver()", x.beaver(), m.beaver());
            }
        }
    }

    private void laws() {
        if (upTo(4) == 0) {
            int seed = about(0, Integer.MAX_VALUE - 1);
            due("seed(" + seed + ")", x.seed(seed), m.seed(seed));
        }
        int law = about(0, 3);
        int n = about(1, upTo(5) == 0 ? 20 : 3);
        int days = about(1, upTo(5) == 0 ? 100 : 20);
        int what = about(0, 1);
        String call = "years(" + law + ", " + n + ", " + days + ", " + what + ")";
        due(call, x.years(law, n, days, what), m.years(law, n, days, what));
    }

    private void images() {
        int size = x.image();
        due("image()", size, m.image());
        int[] data = new int[size];
        for (int k = 0; k < size; k++) {
            data[k] = x.octet(k);
            due("octet(" + k + ")", data[k], m.octet(k));
        }
        int beside = about(0, size);
        due("octet(" + beside + ")", x.octet(beside), m.octet(beside));
        if (upTo(2) == 0) {
            spoil(data);
            put(data);
            due("on()", x.on(), m.on());
        }
    }

    private void spoil(int[] data) {
        if (upTo(3) == 0) {
            int day = upTo(3) == 0 ? 990 + upTo(12) : upTo(999);
            data[0] = day >> 8;
            data[1] = day & 255;
        }
        if (upTo(3) == 0) {
            int water = upTo(3) == 0 ? upTo(20000) : upTo(60);
            data[2] = water >> 8;
            data[3] = water & 255;
        }
        if (upTo(3) == 0) {
            data[4] = upTo(3);
        }
        for (int k = 5; k < data.length - 1; k++) {
            if (upTo(5) == 0) {
                data[k] = upTo(22);
            }
        }
        int c = 67;
        for (int k = 0; k < data.length - 1; k++) {
            c = (3 * c + data[k]) % 251;
        }
        data[data.length - 1] = upTo(6) == 0 ? upTo(255) : c;
    }
}
