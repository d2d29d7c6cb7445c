import java.util.ArrayDeque;
import java.util.ArrayList;
import java.util.Arrays;
import java.util.Deque;
import java.util.List;
import java.util.function.BiFunction;

/**
 * The document once more, written apart from the program and plainly: trees of functions, copies, all rows tried.
 * Random runs are held against it.
 */
final class Model {
    private static final int NONE = -1;
    private static final int NOTHING = -1000000000;
    private static final List<String> OWN = Arrays.asList("lake", "spread", "holds", "has", "gate", "plain", "leaks",
        "steps", "frozen", "to", "boards", "width", "join", "village", "thing", "from", "days", "worth", "chapel",
        "loss", "bank", "rain", "air", "when", "or", "and", "not", "all", "day", "level", "water", "min", "max");

    interface Sum {
        long of(int day, int level, int water);
    }

    interface Fact {
        boolean of(int day, int level, int water);
    }

    static final class Gate {
        String name;
        int kind;
        int n;
        int m;
        int boards;
        int width;
        int joined = NONE;
    }

    static final class Thing {
        int village;
        int gate;
        int from;
        int to;
        int dayFrom;
        int dayTo;
        int worth;
    }

    static final class Rule {
        boolean air;
        Sum sum;
        Fact test;
    }

    static final class Told {
        int spread = 1;
        int holds = 1;
        int has = 0;
        int chapel = 0;
        int chapelLoss = 0;
        int bank = 9999;
        int bankLoss = 0;
        int statements = 0;
        List<Gate> gates = new ArrayList<>();
        List<String> villages = new ArrayList<>();
        List<Integer> villageGates = new ArrayList<>();
        List<Thing> things = new ArrayList<>();
        List<Rule> rules = new ArrayList<>();
    }

    static final class State {
        int day;
        int water;
        int latest;
        int[] boards;
        int[] flow;
        long[] stream;
        int[] worth;
        int[] lately;
        int[] served;
        long[] all = new long[5];

        State copy() {
            State s = new State();
            s.day = day;
            s.water = water;
            s.latest = latest;
            s.boards = boards.clone();
            s.flow = flow.clone();
            s.stream = stream.clone();
            s.worth = worth.clone();
            s.lately = lately.clone();
            s.served = served.clone();
            s.all = all.clone();
            return s;
        }
    }

    static final class Fault extends Exception {
        private static final long serialVersionUID = 1L;
        final int kind;
        final int place;

        Fault(int kind, int place) {
            this.kind = kind;
            this.place = place;
        }
    }

    /** A text cut into words, numbers and signs, then read from the left. */
    static final class Text {
        final List<String> pieces = new ArrayList<>();
        final List<Integer> places = new ArrayList<>();
        final List<Boolean> glued = new ArrayList<>();
        final int length;
        int k = 0;
        final Told told = new Told();

        Text(int[] tape) {
            length = tape.length;
            int i = 0;
            int behind = -1;
            while (i < length) {
                int c = tape[i];
                if (c == 10 || c == 32) {
                    i++;
                    continue;
                }
                int j = i + 1;
                if (sort(c) != 0) {
                    while (j < length && sort(tape[j]) == sort(c)) {
                        j++;
                    }
                }
                StringBuilder b = new StringBuilder();
                for (int q = i; q < j; q++) {
                    b.append((char) tape[q]);
                }
                pieces.add(b.toString());
                places.add(i);
                glued.add(sort(c) != 0 && behind == i);
                behind = sort(c) != 0 ? j : -1;
                i = j;
            }
        }

        static int sort(int c) {
            return c >= 97 && c <= 122 ? 1 : c >= 48 && c <= 57 ? 2 : 0;
        }

        int place() {
            return k < places.size() ? places.get(k) : length;
        }

        String piece() {
            return k < pieces.size() && !glued.get(k) ? pieces.get(k) : "";
        }

        boolean is(String s) {
            return piece().equals(s);
        }

        boolean take(String s) {
            if (is(s)) {
                k++;
                return true;
            }
            return false;
        }

        void want(String... all) throws Fault {
            for (String s : all) {
                if (!take(s)) {
                    throw new Fault(1, place());
                }
            }
        }

        int number(int low, int high) throws Fault {
            String p = piece();
            if (p.isEmpty() || sort(p.charAt(0)) != 2) {
                throw new Fault(1, place());
            }
            if (p.length() > 4) {
                throw new Fault(1, place() + 4);
            }
            int n = Integer.parseInt(p);
            if (n < low || n > high) {
                throw new Fault(2, place());
            }
            k++;
            return n;
        }

        String name() throws Fault {
            String p = piece();
            if (p.isEmpty() || sort(p.charAt(0)) != 1 || OWN.contains(p)) {
                throw new Fault(1, place());
            }
            if (p.length() > 6) {
                throw new Fault(1, place() + 6);
            }
            k++;
            return p;
        }

        int gateNamed(String s) {
            for (int g = 0; g < told.gates.size(); g++) {
                if (told.gates.get(g).name.equals(s)) {
                    return g;
                }
            }
            return NONE;
        }

        String newName() throws Fault {
            int here = place();
            String s = name();
            if (gateNamed(s) >= 0 || told.villages.contains(s)) {
                throw new Fault(3, here);
            }
            return s;
        }

        int oldGate() throws Fault {
            int here = place();
            int g = gateNamed(name());
            if (g < 0) {
                throw new Fault(3, here);
            }
            return g;
        }

        Told whole() throws Fault {
            while (k < pieces.size() || told.statements == 0) {
                if (told.statements == 60) {
                    throw new Fault(5, place());
                }
                if (told.statements == 0) {
                    want("lake", "spread");
                    told.spread = number(1, 999);
                    want("holds");
                    told.holds = number(1, 9999);
                    want("has");
                    told.has = number(0, told.holds);
                } else {
                    statement();
                }
                want(";");
                told.statements++;
            }
            return told;
        }

        void room(int count, int most) throws Fault {
            if (count >= most) {
                throw new Fault(5, places.get(k - 1));
            }
        }

        void statement() throws Fault {
            if (take("gate")) {
                room(told.gates.size(), 9);
                Gate g = new Gate();
                g.name = newName();
                kind(g);
                want("boards");
                g.boards = number(0, 20);
                want("width");
                g.width = number(1, 99);
                told.gates.add(g);
            } else if (take("join")) {
                int[] two = {NONE, NONE};
                for (int i = 0; i < 2; i++) {
                    int here = place();
                    two[i] = oldGate();
                    if (told.gates.get(two[i]).joined >= 0 || i == 1 && two[0] == two[1]) {
                        throw new Fault(3, here);
                    }
                }
                told.gates.get(two[0]).joined = two[1];
                told.gates.get(two[1]).joined = two[0];
            } else if (take("village")) {
                room(told.villages.size(), 6);
                String s = newName();
                want("gate");
                told.villageGates.add(oldGate());
                told.villages.add(s);
            } else if (take("thing")) {
                room(told.things.size(), 16);
                thing();
            } else if (take("chapel")) {
                told.chapel = number(0, 9999);
                want("loss");
                told.chapelLoss = number(0, 99);
            } else if (take("bank")) {
                told.bank = number(0, 9999);
                want("loss");
                told.bankLoss = number(0, 99);
            } else if (is("rain") || is("air")) {
                Rule r = new Rule();
                r.air = is("air");
                k++;
                room(told.rules.size(), 8);
                r.sum = sum(0);
                want("when");
                r.test = test(0);
                told.rules.add(r);
            } else {
                throw new Fault(1, place());
            }
        }

        void kind(Gate g) throws Fault {
            if (take("plain")) {
                g.kind = 0;
            } else if (take("leaks")) {
                g.kind = 1;
                g.n = number(1, 99);
            } else if (take("steps")) {
                g.kind = 2;
                g.n = number(1, 9);
            } else {
                want("frozen");
                g.kind = 3;
                g.n = number(0, 999);
                want("to");
                g.m = number(g.n, 999);
            }
        }

        void thing() throws Fault {
            Thing t = new Thing();
            int here = place();
            t.village = told.villages.indexOf(name());
            if (t.village < 0) {
                throw new Fault(3, here);
            }
            want("gate");
            t.gate = oldGate();
            want("from");
            t.from = number(0, 9999);
            want("to");
            t.to = number(t.from, 9999);
            want("days");
            t.dayFrom = number(0, 999);
            want("to");
            t.dayTo = number(t.dayFrom, 999);
            want("worth");
            t.worth = number(1, 99);
            told.things.add(t);
        }

        int opened(int open) throws Fault {
            if (open == 6) {
                throw new Fault(4, place());
            }
            k++;
            return open + 1;
        }

        Fact test(int open) throws Fault {
            Fact a = bothOf(open);
            while (take("or")) {
                Fact l = a;
                Fact r = bothOf(open);
                a = (d, v, w) -> l.of(d, v, w) || r.of(d, v, w);
            }
            return a;
        }

        Fact bothOf(int open) throws Fault {
            Fact a = fact(open);
            while (take("and")) {
                Fact l = a;
                Fact r = fact(open);
                a = (d, v, w) -> l.of(d, v, w) && r.of(d, v, w);
            }
            return a;
        }

        Fact fact(int open) throws Fault {
            if (is("not")) {
                Fact f = fact(opened(open));
                return (d, v, w) -> !f.of(d, v, w);
            }
            if (is("[")) {
                Fact f = test(opened(open));
                want("]");
                return f;
            }
            if (take("all")) {
                return (d, v, w) -> true;
            }
            Sum l = sum(open);
            String sign = piece();
            if (!sign.equals("<") && !sign.equals(">")) {
                want("=");
            } else {
                k++;
            }
            Sum r = sum(open);
            return (d, v, w) -> {
                int c = Long.compare(l.of(d, v, w), r.of(d, v, w));
                return sign.equals("<") ? c < 0 : sign.equals(">") ? c > 0 : c == 0;
            };
        }

        static Sum joined(Sum l, Sum r, BiFunction<Long, Long, Long> f) {
            return (d, v, w) -> Math.max(-1000000L, Math.min(1000000L, f.apply(l.of(d, v, w), r.of(d, v, w))));
        }

        Sum sum(int open) throws Fault {
            Sum a = product(open);
            while (is("+") || is("-")) {
                boolean plus = is("+");
                k++;
                a = joined(a, product(open), plus ? (p, q) -> p + q : (p, q) -> p - q);
            }
            return a;
        }

        Sum product(int open) throws Fault {
            Sum a = part(open);
            while (is("*") || is("/")) {
                boolean times = is("*");
                k++;
                a = joined(a, part(open), times ? (p, q) -> p * q
                    : (p, q) -> q == 0 ? 0L : (long) Math.floor((double) p / (double) q));
            }
            return a;
        }

        Sum part(int open) throws Fault {
            if (take("day")) {
                return (d, v, w) -> d;
            }
            if (take("level")) {
                return (d, v, w) -> v;
            }
            if (take("water")) {
                return (d, v, w) -> w;
            }
            boolean min = take("min");
            if (min || take("max")) {
                if (!is("(")) {
                    throw new Fault(1, place());
                }
                int in = opened(open);
                Sum a = sum(in);
                want(",");
                Sum b = sum(in);
                want(")");
                return joined(a, b, min ? (p, q) -> Math.min(p, q) : (p, q) -> Math.max(p, q));
            }
            if (is("(")) {
                Sum a = sum(opened(open));
                want(")");
                return a;
            }
            int n = number(0, 9999);
            return (d, v, w) -> n;
        }
    }

    private List<Integer> tape = new ArrayList<>();
    private Told told = new Told();
    private State now;
    private Deque<State> past = new ArrayDeque<>();
    private int fault = 0;
    private int place = NONE;
    private long seed = 1;
    private List<Integer> picture = new ArrayList<>();

    Model() {
        begin();
    }

    private void begin() {
        now = new State();
        now.water = told.has;
        now.boards = new int[told.gates.size()];
        for (int g = 0; g < now.boards.length; g++) {
            now.boards[g] = told.gates.get(g).boards;
        }
        now.flow = new int[told.gates.size()];
        now.stream = new long[told.gates.size()];
        now.worth = new int[told.villages.size()];
        now.lately = new int[told.villages.size()];
        now.served = new int[told.things.size()];
        now.all[0] = now.water;
        past.clear();
    }

    private int[] takeTape() {
        int[] data = tape.stream().mapToInt(Integer::intValue).toArray();
        tape.clear();
        return data;
    }

    private int level(int water) {
        return water / told.spread;
    }

    private boolean isGate(int g) {
        return g >= 0 && g < told.gates.size();
    }

    private boolean isVillage(int v) {
        return v >= 0 && v < told.villages.size();
    }

    private boolean isThing(int t) {
        return t >= 0 && t < told.things.size();
    }

    private int todays(State s) {
        return told.villages.isEmpty() ? NONE : s.day % told.villages.size();
    }

    /** The gate and that which it is joined to. */
    private List<Integer> pair(int gate) {
        List<Integer> all = new ArrayList<>();
        all.add(gate);
        if (told.gates.get(gate).joined >= 0) {
            all.add(told.gates.get(gate).joined);
        }
        return all;
    }

    private boolean lawful(State s, int village, int act, int law) {
        if (act == 0) {
            return true;
        }
        if (act < 0 || act > 2 || village < 0 || law == 3) {
            return false;
        }
        if (law == 0 && s.latest == act) {
            return false;
        }
        for (int g : pair(told.villageGates.get(village))) {
            int b = s.boards[g] + (act == 1 ? -1 : 1);
            if (b < 0 || b > 20 || law == 2 && (act == 1 && b < 1 || act == 2 && b > 9)) {
                return false;
            }
        }
        return true;
    }

    private int[] flows(State s) {
        int[] flow = new int[told.gates.size()];
        int left = s.water;
        for (int g = 0; g < flow.length; g++) {
            Gate gate = told.gates.get(g);
            int head = level(s.water) - s.boards[g];
            if (head < 0) {
                head = 0;
            }
            int f = head * gate.width;
            if (gate.kind == 1 && s.boards[g] > 0 && level(s.water) > 0) {
                f = f + gate.n;
            }
            if (gate.kind == 2) {
                f = (head - head % gate.n) * gate.width;
            }
            if (gate.kind == 3 && s.day >= gate.n && s.day <= gate.m) {
                f = 0;
            }
            flow[g] = f > left ? left : f;
            left -= flow[g];
        }
        return flow;
    }

    private int falls(boolean air, int day, int water) {
        for (Rule r : told.rules) {
            if (r.air == air && r.test.of(day, level(water), water)) {
                long sum = r.sum.of(day, level(water), water);
                return (int) (sum < 0 ? 0 : sum > 9999 ? 9999 : sum);
            }
        }
        return 0;
    }

    private boolean serves(Thing t, int day, int[] flow) {
        return t.dayFrom <= day && day <= t.dayTo && t.from <= flow[t.gate] && flow[t.gate] <= t.to;
    }

    /** The state a DAY later. */
    private State after(State before, int act) {
        State s = before.copy();
        if (act != 0) {
            for (int g : pair(told.villageGates.get(todays(s)))) {
                s.boards[g] += act == 1 ? -1 : 1;
            }
            s.latest = act;
        }
        s.flow = flows(s);
        for (int g = 0; g < s.flow.length; g++) {
            s.stream[g] += s.flow[g];
            s.all[3] += s.flow[g];
            s.water -= s.flow[g];
        }
        int rain = falls(false, s.day, s.water);
        s.water += rain;
        s.all[1] += rain;
        boolean flooded = level(s.water) > told.bank;
        if (s.water > told.holds) {
            s.all[2] += s.water - told.holds;
            s.water = told.holds;
        }
        int air = Math.min(s.water, falls(true, s.day, s.water));
        s.water -= air;
        s.all[4] += air;
        boolean shows = level(s.water) < told.chapel;
        for (int v = 0; v < s.worth.length; v++) {
            s.lately[v] = 0;
            for (int t = 0; t < s.served.length; t++) {
                Thing thing = told.things.get(t);
                if (thing.village == v && serves(thing, s.day, s.flow)) {
                    s.served[t]++;
                    s.lately[v] += thing.worth;
                }
            }
            s.lately[v] -= (shows ? told.chapelLoss : 0) + (flooded ? told.bankLoss : 0);
            s.worth[v] += s.lately[v];
        }
        s.day++;
        return s;
    }

    int feed(int a, int b, int c, int d, int e) {
        if (tape.size() + 20 > 1600) {
            return NONE;
        }
        for (int n : new int[] {a, b, c, d, e}) {
            for (int shift = 24; shift >= 0; shift -= 8) {
                tape.add(n >> shift & 255);
            }
        }
        return tape.size();
    }

    boolean end(int n) {
        if (n < 0 || n > tape.size()) {
            return false;
        }
        tape = new ArrayList<>(tape.subList(0, n));
        return true;
    }

    int lake() {
        try {
            told = new Text(takeTape()).whole();
            fault = 0;
            place = NONE;
            begin();
            return told.statements;
        } catch (Fault f) {
            fault = f.kind;
            place = f.place;
            return NONE;
        }
    }

    int fault(int what) {
        return what == 0 ? fault : what == 1 ? place : NONE;
    }

    int has(int what) {
        int[] all = {told.gates.size(), told.villages.size(), told.things.size(), told.rules.size(), now.day,
            now.water, level(now.water), now.latest, past.size()};
        return what >= 0 && what < all.length ? all[what] : NONE;
    }

    int letter(int kind, int which, int k) {
        String s = kind == 0 && isGate(which) ? told.gates.get(which).name
            : kind == 1 && isVillage(which) ? told.villages.get(which) : null;
        if (s == null || k < 0 || k > 5) {
            return NONE;
        }
        return k < s.length() ? s.charAt(k) - 96 : 0;
    }

    int gate(int gate, int what) {
        if (!isGate(gate) || what < 0 || what > 5) {
            return NONE;
        }
        Gate g = told.gates.get(gate);
        return new int[] {g.kind, now.boards[gate], g.width, g.joined, flows(now)[gate], now.flow[gate]}[what];
    }

    long stream(int gate) {
        return isGate(gate) ? now.stream[gate] : NONE;
    }

    long all(int what) {
        return what >= 0 && what <= 4 ? now.all[what] : NONE;
    }

    int village(int village, int what) {
        if (!isVillage(village) || what < 0 || what > 4) {
            return NOTHING;
        }
        int in = 0;
        while ((now.day + in) % told.villages.size() != village) {
            in++;
        }
        int bits = 0;
        for (int act = 0; act < 3; act++) {
            bits += lawful(now, village, act, 0) ? 1 << act : 0;
        }
        return new int[] {told.villageGates.get(village), now.worth[village], now.lately[village], in, bits}[what];
    }

    int served(int thing) {
        return isThing(thing) ? now.served[thing] : NONE;
    }

    private void go(int act) {
        past.addLast(now.copy());
        if (past.size() > 30) {
            past.removeFirst();
        }
        now = after(now, act);
    }

    int act(int act) {
        if (now.day == 999 || !lawful(now, todays(now), act, 0)) {
            return NONE;
        }
        go(act);
        return level(now.water);
    }

    int rest(int n) {
        if (n < 1 || n > 99) {
            return NONE;
        }
        int before = now.day;
        while (now.day < before + n && now.day < 999) {
            go(0);
        }
        return now.day - before;
    }

    boolean undo() {
        if (past.isEmpty()) {
            return false;
        }
        now = past.removeLast();
        return true;
    }

    int weather(int day, int water, boolean air) {
        if (day < 0 || day > 998 || water < 0 || water > 9999) {
            return NONE;
        }
        return air ? Math.min(water, falls(true, day, water)) : falls(false, day, water);
    }

    private int[] flowsWith(int[] gates, int[] boards) {
        State s = now.copy();
        for (int i = 0; i < gates.length; i++) {
            for (int g : pair(gates[i])) {
                s.boards[g] = boards[i];
            }
        }
        return flows(s);
    }

    int would(int gate, int boards) {
        if (!isGate(gate) || boards < 0 || boards > 20) {
            return NONE;
        }
        return flowsWith(new int[] {gate}, new int[] {boards})[gate];
    }

    int need(int thing) {
        for (int b = 0; isThing(thing) && b <= 20; b++) {
            Thing t = told.things.get(thing);
            int f = would(t.gate, b);
            if (f >= t.from && f <= t.to && now.day >= t.dayFrom && now.day <= t.dayTo) {
                return b;
            }
        }
        return NONE;
    }

    int both(int first, int second) {
        if (!isThing(first) || !isThing(second) || first == second) {
            return NONE;
        }
        Thing a = told.things.get(first);
        Thing b = told.things.get(second);
        for (int i = 0; i <= 20; i++) {
            for (int j = 0; j <= 20; j++) {
                if (pair(a.gate).contains(b.gate) && i != j) {
                    continue;
                }
                int[] flow = flowsWith(new int[] {a.gate, b.gate}, new int[] {i, j});
                if (serves(a, now.day, flow) && serves(b, now.day, flow)) {
                    return 1;
                }
            }
        }
        return 0;
    }

    int until(int level, boolean above) {
        State s = now;
        while (s.day <= now.day + 99) {
            if (above && level(s.water) > level || !above && level(s.water) < level) {
                return s.day;
            }
            if (s.day == 999) {
                return NONE;
            }
            s = after(s, 0);
        }
        return NONE;
    }

    /** All rows of ACTS that THE PEACE allows, the first by numbers first. */
    private void allRows(State s, int[] row, int k, List<int[]> into) {
        if (k == row.length) {
            into.add(row.clone());
            return;
        }
        for (int act = 0; act < 3; act++) {
            if (lawful(s, todays(s), act, 0)) {
                row[k] = act;
                allRows(after(s, act), row, k + 1, into);
            }
        }
    }

    int rows(int n) {
        if (n < 1 || n > 12 || now.day + n > 999) {
            return NONE;
        }
        List<int[]> all = new ArrayList<>();
        allRows(now, new int[n], 0, all);
        return all.size();
    }

    int today(int village, int what) {
        if (now.day == 999 || what != 0 && what != 1 || what == 0 && !isVillage(village)) {
            return NONE;
        }
        int best = NONE;
        long most = Long.MIN_VALUE;
        for (int act = 0; act < 3; act++) {
            if (lawful(now, todays(now), act, 0)) {
                State s = after(now, act);
                long got = what == 0 ? s.lately[village] : level(s.water);
                if (got > most) {
                    most = got;
                    best = act;
                }
            }
        }
        return best;
    }

    private int[] gains(int[] acts) {
        State s = now;
        int[] got = new int[told.villages.size()];
        for (int act : acts) {
            s = after(s, act);
            for (int v = 0; v < got.length; v++) {
                got[v] += s.lately[v];
            }
        }
        return got;
    }

    /** The row of ACTS that EACH FOR ITSELF does behind these. */
    private int[] selfishRow(int[] done, int n) {
        if (done.length == n) {
            return done;
        }
        State s = now;
        for (int act : done) {
            s = after(s, act);
        }
        int[] best = null;
        for (int act = 0; act < 3; act++) {
            int village = todays(s);
            if (!lawful(s, village, act, 0)) {
                continue;
            }
            int[] more = Arrays.copyOf(done, done.length + 1);
            more[done.length] = act;
            int[] row = selfishRow(more, n);
            if (best == null || gains(row)[village] > gains(best)[village]) {
                best = row;
            }
        }
        return best;
    }

    private int[] commonRow(int n) {
        List<int[]> all = new ArrayList<>();
        allRows(now, new int[n], 0, all);
        int[] best = all.get(0);
        for (int[] row : all) {
            if (Arrays.stream(gains(row)).sum() > Arrays.stream(gains(best)).sum()) {
                best = row;
            }
        }
        return best;
    }

    private int planned(int n, int what, boolean forAll) {
        if (n < 1 || n > 6 || now.day + n > 999) {
            return NOTHING;
        }
        boolean act = what >= 0 && what < n;
        boolean got = what >= 10 && isVillage(what - 10);
        if (!act && !got && !(forAll && what == 9)) {
            return NOTHING;
        }
        int[] row = forAll ? commonRow(n) : selfishRow(new int[0], n);
        return act ? row[what] : got ? gains(row)[what - 10] : Arrays.stream(gains(row)).sum();
    }

    int selfish(int n, int what) {
        return planned(n, what, false);
    }

    int common(int n, int what) {
        return planned(n, what, true);
    }

    int share(int n, int village) {
        if (!isVillage(village) || n < 1 || n > 6 || now.day + n > 999) {
            return NOTHING;
        }
        int[] got = gains(selfishRow(new int[0], n));
        int left = Arrays.stream(gains(commonRow(n))).sum() - Arrays.stream(got).sum();
        for (int v = 0; left > 0; v = (v + 1) % got.length) {
            got[v]++;
            left--;
        }
        return got[village];
    }

    private State lifted(State before, int gate) {
        State s = before.copy();
        for (int g : pair(gate)) {
            if (s.boards[g] == 0) {
                return null;
            }
            s.boards[g]--;
        }
        return s;
    }

    int first(int rain, int odds) {
        if (now.day == 999 || rain < 0 || rain > 9999 || odds < 0 || odds > 100) {
            return NONE;
        }
        int best = NONE;
        long least = Long.MAX_VALUE;
        for (int g = 0; g < told.gates.size(); g++) {
            State s = lifted(now, g);
            if (s != null) {
                long w = s.water - Arrays.stream(flows(s)).sum();
                w += falls(false, s.day, (int) w);
                long spilt = odds * Math.max(0, w + rain - told.holds) + (100 - odds) * Math.max(0, w - told.holds);
                if (spilt < least) {
                    least = spilt;
                    best = g;
                }
            }
        }
        return best;
    }

    int steal(int gate) {
        State s = isGate(gate) ? lifted(now, gate) : null;
        if (s == null) {
            return NONE;
        }
        now = s;
        return now.boards[gate];
    }

    private int[] seen() {
        int[] data = takeTape();
        if (data.length != 2 * told.gates.size() || now.day == 999) {
            return null;
        }
        int[] flow = new int[told.gates.size()];
        for (int g = 0; g < flow.length; g++) {
            flow[g] = data[2 * g] * 256 + data[2 * g + 1];
        }
        return flow;
    }

    int thief() {
        int[] flow = seen();
        if (flow == null) {
            return NONE;
        }
        int bits = Arrays.equals(flow, flows(now)) ? 512 : 0;
        for (int g = 0; g < flow.length; g++) {
            State s = lifted(now, g);
            bits += s != null && Arrays.equals(flow, flows(s)) ? 1 << g : 0;
        }
        return bits;
    }

    int beaver() {
        int[] flow = seen();
        for (int g = 0; flow != null && g < flow.length; g++) {
            int[] due = flows(now);
            boolean less = flow[g] < due[g];
            due[g] = flow[g];
            if (less && Arrays.equals(due, flow)) {
                return g;
            }
        }
        return NONE;
    }

    boolean seed(int seed) {
        if (seed >= 0) {
            this.seed = seed;
        }
        return seed >= 0;
    }

    long years(int law, int n, int days, int what) {
        if (law < 0 || law > 3 || n < 1 || n > 20 || days < 1 || days > 100 || what < 0 || what > 1
            || now.day == 999) {
            return NOTHING;
        }
        long worth = 0;
        long spilt = 0;
        for (int y = 0; y < n; y++) {
            State s = now;
            for (int d = 0; d < days && s.day < 999; d++) {
                seed = (1103515245L * seed + 12345L) % (1L << 31);
                int act = (int) (seed / 64 % 3);
                s = after(s, lawful(s, todays(s), act, law) ? act : 0);
                worth += Arrays.stream(s.lately).sum();
            }
            spilt += s.all[2] - now.all[2];
        }
        return what == 0 ? worth : spilt;
    }

    private static int check(List<Integer> data) {
        int c = 67;
        for (int b : data) {
            c = (3 * c + b) % 251;
        }
        return c;
    }

    int image() {
        picture = new ArrayList<>(Arrays.asList(now.day / 256, now.day % 256, now.water / 256, now.water % 256,
            now.latest));
        for (int b : now.boards) {
            picture.add(b);
        }
        picture.add(check(picture));
        return picture.size();
    }

    int octet(int k) {
        return k >= 0 && k < picture.size() ? picture.get(k) : NONE;
    }

    boolean on() {
        int[] d = takeTape();
        int n = told.gates.size();
        if (d.length != 6 + n) {
            return false;
        }
        List<Integer> ahead = new ArrayList<>();
        for (int k = 0; k < 5 + n; k++) {
            ahead.add(d[k]);
        }
        boolean good = check(ahead) == d[5 + n] && d[0] * 256 + d[1] <= 999 && d[2] * 256 + d[3] <= told.holds
            && d[4] <= 2;
        for (int g = 0; g < n; g++) {
            good &= d[5 + g] <= 20;
        }
        if (good) {
            begin();
            now.day = d[0] * 256 + d[1];
            now.water = d[2] * 256 + d[3];
            now.all[0] = now.water;
            now.latest = d[4];
            for (int g = 0; g < n; g++) {
                now.boards[g] = d[5 + g];
            }
        }
        return good;
    }
}
