/**
 * A lake with nine boards: a lake told as a text, its gates, villages and weather, what flows day by day,
 * what villages do best, who lifted a board by night, years under other laws, acts undone, images.
 *
 * All rows are made with the object and used again: no call makes anything new.
 */
public final class NineBoards {
    public static final int NONE = -1;
    public static final int NOTHING = -1000000000;

    private static final int MOST_BYTES = 1600;
    private static final int FED_BYTES = 20;
    private static final int MOST_STATEMENTS = 60;
    private static final int MOST_GATES = 9;
    private static final int MOST_VILLAGES = 6;
    private static final int MOST_THINGS = 16;
    private static final int MOST_RULES = 8;
    private static final int MOST_BOARDS = 20;
    private static final int MOST_WATER = 9999;
    private static final int MOST_LETTERS = 6;
    private static final int MOST_UNDONE = 30;
    private static final int MOST_PLANNED = 6;
    private static final int MOST_ROWS = 12;
    private static final int MOST_RESTS = 99;
    private static final int MOST_YEARS = 20;
    private static final int MOST_YEAR_DAYS = 100;
    private static final int LAST_DAY = 999;
    private static final int ALL_ODDS = 100;

    private static final int LETTER_BITS = 5;
    private static final int LETTER_MASK = 31;

    private static final int PLAIN = 0;
    private static final int LEAKS = 1;
    private static final int STEPS = 2;
    private static final int FROZEN = 3;

    private static final int REST = 0;
    private static final int LIFT = 1;
    private static final int SET = 2;
    private static final int ACTS = 3;

    private static final int LAW_PEACE = 0;
    private static final int LAW_NARROW = 2;
    private static final int LAW_REST = 3;
    private static final int NARROW_LOW = 1;
    private static final int NARROW_HIGH = 9;

    private static final int RAIN = 0;
    private static final int AIR = 1;

    private static final int AT_FIRST = 0;
    private static final int RAINED = 1;
    private static final int SPILT = 2;
    private static final int STREAMED = 3;
    private static final int AIRED = 4;
    private static final int SUMS = 5;

    private static final int IMAGE_HEAD = 5;
    private static final int NO_GATE_BIT = 512;
    private static final int TOGETHER = 9;
    private static final int BY_VILLAGE = 10;

    private final Bytes tape = new Bytes(MOST_BYTES);
    private final Bytes picture = new Bytes(IMAGE_HEAD + MOST_GATES + 1);
    private final State now = new State();
    private final State trial = new State();
    private final Past past = new Past();
    private Lake told = new Lake();
    // The next text is read into this one, so that one with a FAULT changes nothing.
    private Lake spare = new Lake();
    private final Reader reader = new Reader(tape, spare);
    private final Plans plans = new Plans(told);
    private int drawn = 1;

    public NineBoards() {
    }

    public int feed(int a, int b, int c, int d, int e) {
        if (tape.count + FED_BYTES > MOST_BYTES) {
            return NONE;
        }
        tape.putFour(a);
        tape.putFour(b);
        tape.putFour(c);
        tape.putFour(d);
        tape.putFour(e);
        return tape.count;
    }

    public boolean end(int n) {
        if (n < 0 || n > tape.count) {
            return false;
        }
        tape.count = n;
        return true;
    }

    public int lake() {
        reader.read(spare);
        tape.count = 0;
        if (reader.fault != 0) {
            return NONE;
        }
        Lake old = told;
        told = spare;
        spare = old;
        beginAt(0, told.has, REST);
        for (int g = 0; g < told.gates.count; g++) {
            now.boards[g] = told.gates.boards[g];
        }
        return told.statements;
    }

    public int fault(int what) {
        switch (what) {
            case 0:
                return reader.fault;
            case 1:
                return reader.place;
            default:
                return NONE;
        }
    }

    public int has(int what) {
        switch (what) {
            case 0:
                return told.gates.count;
            case 1:
                return told.villages;
            case 2:
                return told.things.count;
            case 3:
                return told.rules.count;
            case 4:
                return now.day;
            case 5:
                return now.water;
            case 6:
                return told.levelAt(now.water);
            case 7:
                return now.latest;
            case 8:
                return past.count;
            default:
                return NONE;
        }
    }

    public int letter(int kind, int which, int k) {
        if (k < 0 || k >= MOST_LETTERS) {
            return NONE;
        }
        if (kind == 0 && told.hasGate(which)) {
            return (told.gates.name[which] >> (LETTER_BITS * k)) & LETTER_MASK;
        }
        if (kind == 1 && told.hasVillage(which)) {
            return (told.villageName[which] >> (LETTER_BITS * k)) & LETTER_MASK;
        }
        return NONE;
    }

    public int gate(int gate, int what) {
        if (!told.hasGate(gate)) {
            return NONE;
        }
        switch (what) {
            case 0:
                return told.gates.kind[gate];
            case 1:
                return now.boards[gate];
            case 2:
                return told.gates.width[gate];
            case 3:
                return told.gates.joined[gate];
            case 4:
                trial.take(now);
                Days.setFlows(told, trial);
                return trial.flows[gate];
            case 5:
                return now.flows[gate];
            default:
                return NONE;
        }
    }

    public long stream(int gate) {
        return told.hasGate(gate) ? now.streams[gate] : NONE;
    }

    public long all(int what) {
        return what >= 0 && what < SUMS ? now.sums[what] : NONE;
    }

    public int village(int village, int what) {
        if (!told.hasVillage(village)) {
            return NOTHING;
        }
        switch (what) {
            case 0:
                return told.villageGate[village];
            case 1:
                return now.worths[village];
            case 2:
                return now.lately[village];
            case 3:
                return told.daysUntil(village, now.day);
            case 4:
                return Days.allowedBits(told, now, village);
            default:
                return NOTHING;
        }
    }

    public int served(int thing) {
        return told.hasThing(thing) ? now.servedDays[thing] : NONE;
    }

    // ---- days

    public int act(int act) {
        int village = told.villageOn(now.day);
        if (now.day >= LAST_DAY || !Days.allows(told, now, village, act, LAW_PEACE)) {
            return NONE;
        }
        past.keep(now);
        Days.pass(told, now, act);
        return told.levelAt(now.water);
    }

    public int rest(int n) {
        if (n < 1 || n > MOST_RESTS) {
            return NONE;
        }
        int went = 0;
        while (went < n && now.day < LAST_DAY) {
            past.keep(now);
            Days.pass(told, now, REST);
            went++;
        }
        return went;
    }

    public boolean undo() {
        return past.bringBack(now);
    }

    public int weather(int day, int water, boolean air) {
        if (day < 0 || day >= LAST_DAY || water < 0 || water > MOST_WATER) {
            return NONE;
        }
        int amount = told.rules.amount(air ? AIR : RAIN, day, told.levelAt(water), water);
        return air ? Math.min(amount, water) : amount;
    }

    public int would(int gate, int boards) {
        if (!told.hasGate(gate) || boards < 0 || boards > MOST_BOARDS) {
            return NONE;
        }
        trial.take(now);
        putBoards(gate, boards);
        Days.setFlows(told, trial);
        return trial.flows[gate];
    }

    public int need(int thing) {
        if (!told.hasThing(thing)) {
            return NONE;
        }
        trial.take(now);
        for (int boards = 0; boards <= MOST_BOARDS; boards++) {
            putBoards(told.things.gate[thing], boards);
            Days.setFlows(told, trial);
            if (isServedInTrial(thing)) {
                return boards;
            }
        }
        return NONE;
    }

    public int both(int first, int second) {
        if (!told.hasThing(first) || !told.hasThing(second) || first == second) {
            return NONE;
        }
        int one = told.things.gate[first];
        int other = told.things.gate[second];
        boolean alike = one == other || told.gates.joined[one] == other;
        trial.take(now);
        for (int boards = 0; boards <= MOST_BOARDS; boards++) {
            int most = alike ? boards : MOST_BOARDS;
            for (int others = alike ? boards : 0; others <= most; others++) {
                putBoards(one, boards);
                putBoards(other, others);
                Days.setFlows(told, trial);
                if (isServedInTrial(first) && isServedInTrial(second)) {
                    return 1;
                }
            }
        }
        return 0;
    }

    public int until(int level, boolean above) {
        trial.take(now);
        for (int went = 0; went <= MOST_RESTS; went++) {
            int reached = told.levelAt(trial.water);
            if (above ? reached > level : reached < level) {
                return trial.day;
            }
            if (trial.day >= LAST_DAY) {
                return NONE;
            }
            Days.pass(told, trial, REST);
        }
        return NONE;
    }

    public int rows(int n) {
        if (n < 1 || n > MOST_ROWS || now.day + n > LAST_DAY) {
            return NONE;
        }
        trial.take(now);
        return Days.countRows(told, trial, n);
    }

    public int today(int village, int what) {
        boolean byWorth = what == 0 && told.hasVillage(village);
        if (now.day >= LAST_DAY || !byWorth && what != 1) {
            return NONE;
        }
        int best = NONE;
        int most = 0;
        for (int act = REST; act < ACTS; act++) {
            if (Days.allows(told, now, told.villageOn(now.day), act, LAW_PEACE)) {
                trial.take(now);
                Days.pass(told, trial, act);
                int got = byWorth ? trial.lately[village] : told.levelAt(trial.water);
                if (best == NONE || got > most) {
                    best = act;
                    most = got;
                }
            }
        }
        return best;
    }

    // ---- plans

    public int selfish(int n, int what) {
        if (!canPlan(n) || !isPlanned(n, what)) {
            return NOTHING;
        }
        plans.make(told, now, n, false);
        return what < BY_VILLAGE ? plans.actOn(what) : plans.gotBy(what - BY_VILLAGE);
    }

    public int common(int n, int what) {
        if (!canPlan(n) || what != TOGETHER && !isPlanned(n, what)) {
            return NOTHING;
        }
        plans.make(told, now, n, true);
        if (what == TOGETHER) {
            return plans.gotTogether();
        }
        return what < BY_VILLAGE ? plans.actOn(what) : plans.gotBy(what - BY_VILLAGE);
    }

    public int share(int n, int village) {
        if (!canPlan(n) || !told.hasVillage(village)) {
            return NOTHING;
        }
        plans.make(told, now, n, false);
        int own = plans.gotBy(village);
        int apart = plans.gotTogether();
        plans.make(told, now, n, true);
        int more = plans.gotTogether() - apart;
        // The first VILLAGES take what can't be divided, 1 each.
        int left = Math.floorMod(more, told.villages);
        return own + Math.floorDiv(more, told.villages) + (village < left ? 1 : 0);
    }

    public int first(int rain, int odds) {
        if (rain < 0 || rain > MOST_WATER || odds < 0 || odds > ALL_ODDS || now.day >= LAST_DAY) {
            return NONE;
        }
        int best = NONE;
        int least = 0;
        for (int gate = 0; gate < told.gates.count; gate++) {
            if (Days.canLoseBoard(told, now, gate)) {
                trial.take(now);
                Days.loseBoard(told, trial, gate);
                int over = Days.waterAhead(told, trial) - told.holds;
                int spilt = odds * Math.max(0, over + rain) + (ALL_ODDS - odds) * Math.max(0, over);
                if (best == NONE || spilt < least) {
                    best = gate;
                    least = spilt;
                }
            }
        }
        return best;
    }

    // ---- by night

    public int steal(int gate) {
        if (!told.hasGate(gate) || !Days.canLoseBoard(told, now, gate)) {
            return NONE;
        }
        Days.loseBoard(told, now, gate);
        return now.boards[gate];
    }

    public int thief() {
        int answer = canLookAtDawn() ? suspects() : NONE;
        tape.count = 0;
        return answer;
    }

    public int beaver() {
        int answer = canLookAtDawn() ? dammedGate() : NONE;
        tape.count = 0;
        return answer;
    }

    // ---- laws

    public boolean seed(int seed) {
        if (seed < 0) {
            return false;
        }
        drawn = seed;
        return true;
    }

    public long years(int law, int n, int days, int what) {
        boolean canAsk = law >= LAW_PEACE && law <= LAW_REST && what >= 0 && what <= 1;
        boolean canGo = n >= 1 && n <= MOST_YEARS && days >= 1 && days <= MOST_YEAR_DAYS;
        if (!canAsk || !canGo || now.day >= LAST_DAY) {
            return NOTHING;
        }
        long sum = 0;
        for (int year = 0; year < n; year++) {
            sum += goThroughYear(law, days, what == 0);
        }
        return sum;
    }

    // ---- images

    public int image() {
        picture.count = 0;
        picture.putTwo(now.day);
        picture.putTwo(now.water);
        picture.put(now.latest);
        for (int g = 0; g < told.gates.count; g++) {
            picture.put(now.boards[g]);
        }
        picture.put(picture.check(picture.count));
        return picture.count;
    }

    public int octet(int k) {
        return picture.at(k);
    }

    public boolean on() {
        boolean good = tapeIsImage();
        if (good) {
            beginAt(tape.twoAt(0), tape.twoAt(2), tape.at(4));
            for (int g = 0; g < told.gates.count; g++) {
                now.boards[g] = tape.at(IMAGE_HEAD + g);
            }
        }
        tape.count = 0;
        return good;
    }

    private void beginAt(int day, int water, int latest) {
        now.clear();
        now.day = day;
        now.water = water;
        now.latest = latest;
        now.sums[AT_FIRST] = water;
        past.count = 0;
    }

    private void putBoards(int gate, int boards) {
        trial.boards[gate] = boards;
        int joined = told.gates.joined[gate];
        if (joined != NONE) {
            trial.boards[joined] = boards;
        }
    }

    private boolean isServedInTrial(int thing) {
        return told.things.isServed(thing, now.day, trial.flows[told.things.gate[thing]]);
    }

    private boolean canPlan(int n) {
        return n >= 1 && n <= MOST_PLANNED && now.day + n <= LAST_DAY;
    }

    private boolean isPlanned(int n, int what) {
        return what >= 0 && what < n || what >= BY_VILLAGE && told.hasVillage(what - BY_VILLAGE);
    }

    private boolean canLookAtDawn() {
        return now.day < LAST_DAY && tape.count == 2 * told.gates.count;
    }

    private int suspects() {
        trial.take(now);
        int bits = trialIsSeen() ? NO_GATE_BIT : 0;
        for (int gate = 0; gate < told.gates.count; gate++) {
            if (Days.canLoseBoard(told, now, gate)) {
                trial.take(now);
                Days.loseBoard(told, trial, gate);
                bits |= trialIsSeen() ? 1 << gate : 0;
            }
        }
        return bits;
    }

    private boolean trialIsSeen() {
        Days.setFlows(told, trial);
        for (int g = 0; g < told.gates.count; g++) {
            if (trial.flows[g] != tape.twoAt(2 * g)) {
                return false;
            }
        }
        return true;
    }

    private int dammedGate() {
        trial.take(now);
        Days.setFlows(told, trial);
        int dammed = NONE;
        for (int g = 0; g < told.gates.count; g++) {
            int seen = tape.twoAt(2 * g);
            if (seen != trial.flows[g]) {
                if (seen > trial.flows[g] || dammed != NONE) {
                    return NONE;
                }
                dammed = g;
            }
        }
        return dammed;
    }

    private long goThroughYear(int law, int days, boolean byWorth) {
        long worth = 0;
        trial.take(now);
        for (int went = 0; went < days && trial.day < LAST_DAY; went++) {
            int act = draw(ACTS);
            boolean lawful = Days.allows(told, trial, told.villageOn(trial.day), act, law);
            Days.pass(told, trial, lawful ? act : REST);
            for (int v = 0; v < told.villages; v++) {
                worth += trial.lately[v];
            }
        }
        return byWorth ? worth : trial.sums[SPILT] - now.sums[SPILT];
    }

    private int draw(int m) {
        drawn = (int) ((1103515245L * drawn + 12345L) & 0x7fffffffL);
        return m > 0 ? (drawn / 64) % m : 0;
    }

    private boolean tapeIsImage() {
        int gates = told.gates.count;
        if (tape.count != IMAGE_HEAD + gates + 1 || tape.check(tape.count - 1) != tape.at(tape.count - 1)) {
            return false;
        }
        for (int g = 0; g < gates; g++) {
            if (tape.at(IMAGE_HEAD + g) > MOST_BOARDS) {
                return false;
            }
        }
        return tape.twoAt(0) <= LAST_DAY && tape.twoAt(2) <= told.holds && tape.at(4) <= SET;
    }

    /** Bytes one behind the other: the tape, an image. */
    private static final class Bytes {
        final int[] data;
        int count;

        Bytes(int room) {
            data = new int[Math.max(0, room)];
        }

        void put(int value) {
            if (count >= 0 && count < data.length) {
                data[count] = value & 255;
                count++;
            }
        }

        void putTwo(int value) {
            put(value >> 8);
            put(value);
        }

        void putFour(int value) {
            putTwo(value >> 16);
            putTwo(value);
        }

        int at(int k) {
            return k >= 0 && k < count && k < data.length ? data[k] : NONE;
        }

        int twoAt(int k) {
            return at(k) * 256 + at(k + 1);
        }

        int check(int n) {
            int c = 67;
            for (int k = 0; k < n && k < data.length; k++) {
                c = (3 * c + data[k]) % 251;
            }
            return c;
        }
    }

    /** The GATES as they are told. */
    private static final class Gates {
        int count;
        final int[] name = new int[MOST_GATES];
        final int[] kind = new int[MOST_GATES];
        final int[] from = new int[MOST_GATES];
        final int[] to = new int[MOST_GATES];
        final int[] boards = new int[MOST_GATES];
        final int[] width = new int[MOST_GATES];
        final int[] joined = new int[MOST_GATES];

        int named(int asked) {
            for (int g = 0; g < count; g++) {
                if (name[g] == asked) {
                    return g;
                }
            }
            return NONE;
        }

        /** What flows at a gate with so many boards, were there water enough. */
        int fullFlow(int gate, int boardsThere, int level, int day) {
            int head = Math.max(0, level - boardsThere);
            int flow = head * width[gate];
            switch (kind[gate]) {
                case LEAKS:
                    return boardsThere > 0 && level > 0 ? flow + from[gate] : flow;
                case STEPS:
                    return from[gate] > 0 ? head / from[gate] * from[gate] * width[gate] : 0;
                case FROZEN:
                    return day >= from[gate] && day <= to[gate] ? 0 : flow;
                default:
                    return flow;
            }
        }
    }

    /** The THINGS that streams serve. */
    private static final class Things {
        int count;
        final int[] village = new int[MOST_THINGS];
        final int[] gate = new int[MOST_THINGS];
        final int[] from = new int[MOST_THINGS];
        final int[] to = new int[MOST_THINGS];
        final int[] firstDay = new int[MOST_THINGS];
        final int[] lastDay = new int[MOST_THINGS];
        final int[] worth = new int[MOST_THINGS];

        boolean isServed(int thing, int day, int flow) {
            boolean inTime = day >= firstDay[thing] && day <= lastDay[thing];
            return inTime && flow >= from[thing] && flow <= to[thing];
        }
    }

    /** The RULES of rain and air, each as a SUM and then a TEST, operators behind what they join. */
    private static final class Rules {
        // What is not below 0 is a number itself.
        static final int DAY = -1;
        static final int LEVEL = -2;
        static final int WATER = -3;
        static final int NOT = -4;
        static final int ADD = -5;
        static final int SUBTRACT = -6;
        static final int TIMES = -7;
        static final int DIVIDE = -8;
        static final int LEAST = -9;
        static final int GREATEST = -10;
        static final int BELOW = -11;
        static final int ABOVE = -12;
        static final int SAME = -13;
        static final int AND = -14;
        static final int OR = -15;

        private static final long MOST = 1000000;
        // Each of the 6 that may be open leaves 3 values at most waiting, the RULE itself 5.
        private static final int MOST_WAITING = 40;

        int count;
        int size;
        final int[] kind = new int[MOST_RULES];
        final int[] sumFrom = new int[MOST_RULES];
        final int[] testFrom = new int[MOST_RULES];
        final int[] end = new int[MOST_RULES];
        // No byte of a text gives more than one of these.
        private final int[] code = new int[MOST_BYTES];
        private final int[] waiting = new int[MOST_WAITING];

        void put(int step) {
            if (size >= 0 && size < code.length) {
                code[size] = step;
                size++;
            }
        }

        /** By the first rule of a kind whose test holds. */
        int amount(int asked, int day, int level, int water) {
            for (int r = 0; r < count; r++) {
                if (kind[r] == asked && value(testFrom[r], end[r], day, level, water) != 0) {
                    int sum = value(sumFrom[r], testFrom[r], day, level, water);
                    return Math.max(0, Math.min(MOST_WATER, sum));
                }
            }
            return 0;
        }

        private int value(int start, int stop, int day, int level, int water) {
            int top = 0;
            for (int k = Math.max(0, start); k < stop && k < code.length; k++) {
                int step = code[k];
                if (step >= WATER) {
                    if (top < waiting.length) {
                        waiting[top] = step >= 0 ? step : step == DAY ? day : step == LEVEL ? level : water;
                        top++;
                    }
                } else if (step == NOT) {
                    if (top >= 1) {
                        waiting[top - 1] = 1 - waiting[top - 1];
                    }
                } else if (top >= 2) {
                    top--;
                    waiting[top - 1] = joined(step, waiting[top - 1], waiting[top]);
                }
            }
            return top >= 1 ? waiting[top - 1] : 0;
        }

        private static int joined(int step, int a, int b) {
            switch (step) {
                case ADD:
                    return within((long) a + b);
                case SUBTRACT:
                    return within((long) a - b);
                case TIMES:
                    return within((long) a * b);
                case DIVIDE:
                    return b == 0 ? 0 : Math.floorDiv(a, b);
                case LEAST:
                    return Math.min(a, b);
                case GREATEST:
                    return Math.max(a, b);
                case BELOW:
                    return a < b ? 1 : 0;
                case ABOVE:
                    return a > b ? 1 : 0;
                case SAME:
                    return a == b ? 1 : 0;
                case AND:
                    return a & b;
                default:
                    return a | b;
            }
        }

        private static int within(long value) {
            return value > MOST ? (int) MOST : value < -MOST ? (int) -MOST : (int) value;
        }
    }

    /** THE LAKE as it is told. */
    private static final class Lake {
        int statements;
        int spread;
        int holds;
        int has;
        final Gates gates = new Gates();
        int villages;
        final int[] villageName = new int[MOST_VILLAGES];
        final int[] villageGate = new int[MOST_VILLAGES];
        final Things things = new Things();
        final Rules rules = new Rules();
        int chapel;
        int chapelLoss;
        int bank;
        int bankLoss;

        Lake() {
            clear();
        }

        void clear() {
            statements = 0;
            spread = 1;
            holds = 1;
            has = 0;
            gates.count = 0;
            villages = 0;
            things.count = 0;
            rules.count = 0;
            rules.size = 0;
            chapel = 0;
            chapelLoss = 0;
            bank = MOST_WATER;
            bankLoss = 0;
        }

        boolean hasGate(int gate) {
            return gate >= 0 && gate < gates.count;
        }

        boolean hasVillage(int village) {
            return village >= 0 && village < villages;
        }

        boolean hasThing(int thing) {
            return thing >= 0 && thing < things.count;
        }

        int villageNamed(int asked) {
            for (int v = 0; v < villages; v++) {
                if (villageName[v] == asked) {
                    return v;
                }
            }
            return NONE;
        }

        int levelAt(int water) {
            return spread > 0 ? Math.floorDiv(water, spread) : 0;
        }

        int villageOn(int day) {
            return villages > 0 ? Math.floorMod(day, villages) : NONE;
        }

        int daysUntil(int village, int day) {
            return villages > 0 ? Math.floorMod(village - day, villages) : NONE;
        }
    }

    /** Reads a text as a lake, up to its first fault. */
    private static final class Reader {
        private static final int NO_TEXT = 1;
        private static final int NO_NUMBER = 2;
        private static final int NO_NAME = 3;
        private static final int TOO_DEEP = 4;
        private static final int TOO_MANY = 5;

        private static final int END = 0;
        private static final int WORD = 1;
        private static final int NUMBER = 2;
        private static final int SIGN = 3;

        private static final int MOST_DIGITS = 4;
        private static final int MOST_OPEN = 6;
        // So many letters go into a long; no OWN WORD has more.
        private static final int MOST_PACKED = 12;

        // The constants behind are places in this row.
        private static final String OWN_WORDS = "lake spread holds has gate plain leaks steps frozen to boards width join village thing from days worth chapel loss bank rain air when or and not all day level water min max ";
        private static final int OWN_WORDS_COUNT = 33;
        private static final int LAKE_WORD = 0;
        private static final int SPREAD_WORD = 1;
        private static final int HOLDS_WORD = 2;
        private static final int HAS_WORD = 3;
        private static final int GATE_WORD = 4;
        private static final int PLAIN_WORD = 5;
        private static final int LEAKS_WORD = 6;
        private static final int STEPS_WORD = 7;
        private static final int FROZEN_WORD = 8;
        private static final int TO_WORD = 9;
        private static final int BOARDS_WORD = 10;
        private static final int WIDTH_WORD = 11;
        private static final int JOIN_WORD = 12;
        private static final int VILLAGE_WORD = 13;
        private static final int THING_WORD = 14;
        private static final int FROM_WORD = 15;
        private static final int DAYS_WORD = 16;
        private static final int WORTH_WORD = 17;
        private static final int CHAPEL_WORD = 18;
        private static final int LOSS_WORD = 19;
        private static final int BANK_WORD = 20;
        private static final int RAIN_WORD = 21;
        private static final int AIR_WORD = 22;
        private static final int WHEN_WORD = 23;
        private static final int OR_WORD = 24;
        private static final int AND_WORD = 25;
        private static final int NOT_WORD = 26;
        private static final int ALL_WORD = 27;
        private static final int DAY_WORD = 28;
        private static final int LEVEL_WORD = 29;
        private static final int WATER_WORD = 30;
        private static final int MIN_WORD = 31;
        private static final int MAX_WORD = 32;

        int fault;
        int place = NONE;
        private final long[] ownWords = new long[OWN_WORDS_COUNT];
        private final Bytes text;
        private Lake lake;
        private int at;
        // What stands next: its sort and first byte, and of a word, number or sign what it is.
        private int sort;
        private int start;
        private long letters;
        private int word;
        private int number;
        private int sign;

        Reader(Bytes tape, Lake target) {
            text = tape;
            lake = target;
            int which = 0;
            int shift = 0;
            for (int k = 0; k < OWN_WORDS.length() && which < OWN_WORDS_COUNT; k++) {
                char c = OWN_WORDS.charAt(k);
                if (c == ' ') {
                    which++;
                    shift = 0;
                } else {
                    ownWords[which] |= (long) (c - 'a' + 1) << shift;
                    shift += LETTER_BITS;
                }
            }
        }

        void read(Lake target) {
            lake = target;
            lake.clear();
            fault = 0;
            place = NONE;
            at = 0;
            sort = END;
            advance();
            readLake();
            endStatement();
            for (int k = 1; k <= MOST_STATEMENTS && fault == 0 && sort != END; k++) {
                if (k == MOST_STATEMENTS) {
                    fail(TOO_MANY, start);
                } else if (isWord(RAIN_WORD) || isWord(AIR_WORD)) {
                    readRule(isWord(RAIN_WORD) ? RAIN : AIR);
                } else {
                    readStatement();
                }
                endStatement();
            }
        }

        private void readStatement() {
            switch (sort == WORD ? word : NONE) {
                case GATE_WORD:
                    readGate();
                    break;
                case JOIN_WORD:
                    readJoin();
                    break;
                case VILLAGE_WORD:
                    readVillage();
                    break;
                case THING_WORD:
                    readThing();
                    break;
                case CHAPEL_WORD:
                    readChapel();
                    break;
                case BANK_WORD:
                    readBank();
                    break;
                default:
                    fail(NO_TEXT, start);
                    break;
            }
        }

        private void endStatement() {
            readSign(';');
            if (fault == 0) {
                lake.statements++;
            }
        }

        private void readLake() {
            readWord(LAKE_WORD);
            readWord(SPREAD_WORD);
            lake.spread = readNumber(1, 999);
            readWord(HOLDS_WORD);
            lake.holds = readNumber(1, MOST_WATER);
            readWord(HAS_WORD);
            lake.has = readNumber(0, lake.holds);
        }

        private void readGate() {
            Gates gates = lake.gates;
            int g = gates.count;
            if (!readKind(g, MOST_GATES)) {
                return;
            }
            gates.name[g] = readNewName();
            readGateKind(gates, g);
            readWord(BOARDS_WORD);
            gates.boards[g] = readNumber(0, MOST_BOARDS);
            readWord(WIDTH_WORD);
            gates.width[g] = readNumber(1, 99);
            gates.joined[g] = NONE;
            gates.count = g + 1;
        }

        private void readGateKind(Gates gates, int g) {
            switch (sort == WORD ? word : NONE) {
                case PLAIN_WORD:
                    gates.kind[g] = PLAIN;
                    advance();
                    break;
                case LEAKS_WORD:
                    gates.kind[g] = LEAKS;
                    advance();
                    gates.from[g] = readNumber(1, 99);
                    break;
                case STEPS_WORD:
                    gates.kind[g] = STEPS;
                    advance();
                    gates.from[g] = readNumber(1, 9);
                    break;
                case FROZEN_WORD:
                    gates.kind[g] = FROZEN;
                    advance();
                    gates.from[g] = readNumber(0, LAST_DAY);
                    readWord(TO_WORD);
                    gates.to[g] = readNumber(gates.from[g], LAST_DAY);
                    break;
                default:
                    fail(NO_TEXT, start);
                    break;
            }
        }

        private void readJoin() {
            advance();
            int here = start;
            int one = readGateName();
            if (one != NONE && lake.gates.joined[one] != NONE) {
                fail(NO_NAME, here);
            }
            here = start;
            int other = readGateName();
            if (other != NONE && (other == one || lake.gates.joined[other] != NONE)) {
                fail(NO_NAME, here);
            }
            if (fault == 0 && one != NONE && other != NONE) {
                lake.gates.joined[one] = other;
                lake.gates.joined[other] = one;
            }
        }

        private void readVillage() {
            int v = lake.villages;
            if (!readKind(v, MOST_VILLAGES)) {
                return;
            }
            lake.villageName[v] = readNewName();
            readWord(GATE_WORD);
            lake.villageGate[v] = readGateName();
            lake.villages = v + 1;
        }

        private void readThing() {
            Things things = lake.things;
            int t = things.count;
            if (!readKind(t, MOST_THINGS)) {
                return;
            }
            int here = start;
            things.village[t] = lake.villageNamed(readName());
            if (things.village[t] == NONE) {
                fail(NO_NAME, here);
            }
            readWord(GATE_WORD);
            things.gate[t] = readGateName();
            readWord(FROM_WORD);
            things.from[t] = readNumber(0, MOST_WATER);
            readWord(TO_WORD);
            things.to[t] = readNumber(things.from[t], MOST_WATER);
            readWord(DAYS_WORD);
            things.firstDay[t] = readNumber(0, LAST_DAY);
            readWord(TO_WORD);
            things.lastDay[t] = readNumber(things.firstDay[t], LAST_DAY);
            readWord(WORTH_WORD);
            things.worth[t] = readNumber(1, 99);
            things.count = t + 1;
        }

        private void readChapel() {
            advance();
            lake.chapel = readNumber(0, MOST_WATER);
            readWord(LOSS_WORD);
            lake.chapelLoss = readNumber(0, 99);
        }

        private void readBank() {
            advance();
            lake.bank = readNumber(0, MOST_WATER);
            readWord(LOSS_WORD);
            lake.bankLoss = readNumber(0, 99);
        }

        private void readRule(int kind) {
            Rules rules = lake.rules;
            int r = rules.count;
            if (!readKind(r, MOST_RULES)) {
                return;
            }
            rules.kind[r] = kind;
            rules.sumFrom[r] = rules.size;
            readSum(0);
            readWord(WHEN_WORD);
            rules.testFrom[r] = rules.size;
            readTest(0);
            rules.end[r] = rules.size;
            rules.count = r + 1;
        }

        /** Goes by the first word of a statement, if one more of its kind may be. */
        private boolean readKind(int count, int most) {
            if (count < 0 || count >= most) {
                fail(TOO_MANY, start);
                return false;
            }
            advance();
            return true;
        }

        private void readTest(int depth) {
            readBothFacts(depth);
            for (int k = 0; k < MOST_BYTES && isWord(OR_WORD); k++) {
                advance();
                readBothFacts(depth);
                lake.rules.put(Rules.OR);
            }
        }

        private void readBothFacts(int depth) {
            readFact(depth);
            for (int k = 0; k < MOST_BYTES && isWord(AND_WORD); k++) {
                advance();
                readFact(depth);
                lake.rules.put(Rules.AND);
            }
        }

        private void readFact(int depth) {
            if (isWord(NOT_WORD)) {
                if (goesDeeper(depth)) {
                    readFact(depth + 1);
                    lake.rules.put(Rules.NOT);
                }
            } else if (isSign('[')) {
                if (goesDeeper(depth)) {
                    readTest(depth + 1);
                    readSign(']');
                }
            } else if (isWord(ALL_WORD)) {
                advance();
                lake.rules.put(1);
            } else {
                readSum(depth);
                int step = isSign('<') ? Rules.BELOW : isSign('>') ? Rules.ABOVE : Rules.SAME;
                readSign(step == Rules.BELOW ? '<' : step == Rules.ABOVE ? '>' : '=');
                readSum(depth);
                lake.rules.put(step);
            }
        }

        private void readSum(int depth) {
            readProduct(depth);
            for (int k = 0; k < MOST_BYTES && (isSign('+') || isSign('-')); k++) {
                int step = isSign('+') ? Rules.ADD : Rules.SUBTRACT;
                advance();
                readProduct(depth);
                lake.rules.put(step);
            }
        }

        private void readProduct(int depth) {
            readPart(depth);
            for (int k = 0; k < MOST_BYTES && (isSign('*') || isSign('/')); k++) {
                int step = isSign('*') ? Rules.TIMES : Rules.DIVIDE;
                advance();
                readPart(depth);
                lake.rules.put(step);
            }
        }

        private void readPart(int depth) {
            if (sort == NUMBER) {
                lake.rules.put(readNumber(0, MOST_WATER));
            } else if (isWord(DAY_WORD)) {
                advance();
                lake.rules.put(Rules.DAY);
            } else if (isWord(LEVEL_WORD)) {
                advance();
                lake.rules.put(Rules.LEVEL);
            } else if (isWord(WATER_WORD)) {
                advance();
                lake.rules.put(Rules.WATER);
            } else if (isWord(MIN_WORD) || isWord(MAX_WORD)) {
                int step = isWord(MIN_WORD) ? Rules.LEAST : Rules.GREATEST;
                advance();
                readPair(depth, step);
            } else if (!isSign('(')) {
                fail(NO_TEXT, start);
            } else if (goesDeeper(depth)) {
                readSum(depth + 1);
                readSign(')');
            }
        }

        private void readPair(int depth, int step) {
            if (!isSign('(')) {
                fail(NO_TEXT, start);
            } else if (goesDeeper(depth)) {
                readSum(depth + 1);
                readSign(',');
                readSum(depth + 1);
                readSign(')');
                lake.rules.put(step);
            }
        }

        /** Goes by what opens, if one more may be open. */
        private boolean goesDeeper(int depth) {
            if (depth >= MOST_OPEN) {
                fail(TOO_DEEP, start);
                return false;
            }
            advance();
            return true;
        }

        private boolean isWord(int asked) {
            return sort == WORD && word == asked;
        }

        private boolean isSign(char asked) {
            return sort == SIGN && sign == asked;
        }

        private void readWord(int asked) {
            if (isWord(asked)) {
                advance();
            } else {
                fail(NO_TEXT, start);
            }
        }

        private void readSign(char asked) {
            if (isSign(asked)) {
                advance();
            } else {
                fail(NO_TEXT, start);
            }
        }

        private int readNumber(int least, int most) {
            int here = start;
            int value = number;
            if (sort != NUMBER) {
                fail(NO_TEXT, here);
                return least;
            }
            if (at - here > MOST_DIGITS) {
                fail(NO_TEXT, here + MOST_DIGITS);
                return least;
            }
            if (value < least || value > most) {
                fail(NO_NUMBER, here);
                return least;
            }
            advance();
            return value;
        }

        private int readName() {
            if (sort != WORD || word != NONE) {
                fail(NO_TEXT, start);
                return NONE;
            }
            if (at - start > MOST_LETTERS) {
                fail(NO_TEXT, start + MOST_LETTERS);
                return NONE;
            }
            int name = (int) letters;
            advance();
            return name;
        }

        private int readNewName() {
            int here = start;
            int name = readName();
            if (lake.gates.named(name) != NONE || lake.villageNamed(name) != NONE) {
                fail(NO_NAME, here);
            }
            return name;
        }

        private int readGateName() {
            int here = start;
            int gate = lake.gates.named(readName());
            if (gate == NONE) {
                fail(NO_NAME, here);
            }
            return gate;
        }

        /** The first fault is kept; behind it nothing stands any more, so that all reading ends. */
        private void fail(int kind, int where) {
            if (fault == 0) {
                fault = kind;
                place = where;
            }
            at = text.count;
            start = at;
            sort = END;
        }

        private void advance() {
            boolean needsBlank = sort == WORD || sort == NUMBER;
            int from = at;
            int stop = Math.min(text.count, text.data.length);
            while (at < stop && (text.data[at] == ' ' || text.data[at] == '\n')) {
                at++;
            }
            start = at;
            if (at >= stop) {
                sort = END;
                return;
            }
            sign = text.data[at];
            // A letter or digit without its blank is taken as a sign: no text goes on with it.
            sort = needsBlank && at == from ? SIGN : sortOf(sign);
            at++;
            while (at < stop && sort != SIGN && sortOf(text.data[at]) == sort) {
                at++;
            }
            if (sort == WORD) {
                knowWord();
            } else if (sort == NUMBER) {
                knowNumber();
            }
        }

        private static int sortOf(int c) {
            return c >= 'a' && c <= 'z' ? WORD : c >= '0' && c <= '9' ? NUMBER : SIGN;
        }

        private void knowWord() {
            letters = 0;
            for (int k = start; k < at && k < start + MOST_PACKED; k++) {
                letters |= (long) (text.data[k] - 'a' + 1) << (LETTER_BITS * (k - start));
            }
            word = NONE;
            for (int k = 0; k < OWN_WORDS_COUNT; k++) {
                if (ownWords[k] == letters) {
                    word = k;
                }
            }
        }

        private void knowNumber() {
            number = 0;
            for (int k = start; k < at && k < start + MOST_DIGITS; k++) {
                number = 10 * number + text.data[k] - '0';
            }
        }
    }

    /** How it stands ahead of a DAY. */
    private static final class State {
        int day;
        int water;
        int latest;
        final int[] boards = new int[MOST_GATES];
        final int[] flows = new int[MOST_GATES];
        final long[] streams = new long[MOST_GATES];
        final int[] worths = new int[MOST_VILLAGES];
        final int[] lately = new int[MOST_VILLAGES];
        final int[] servedDays = new int[MOST_THINGS];
        final long[] sums = new long[SUMS];

        void clear() {
            day = 0;
            water = 0;
            latest = REST;
            for (int g = 0; g < MOST_GATES; g++) {
                boards[g] = 0;
                flows[g] = 0;
                streams[g] = 0;
            }
            for (int v = 0; v < MOST_VILLAGES; v++) {
                worths[v] = 0;
                lately[v] = 0;
            }
            for (int t = 0; t < MOST_THINGS; t++) {
                servedDays[t] = 0;
            }
            for (int k = 0; k < SUMS; k++) {
                sums[k] = 0;
            }
        }

        void take(State other) {
            day = other.day;
            water = other.water;
            latest = other.latest;
            System.arraycopy(other.boards, 0, boards, 0, MOST_GATES);
            System.arraycopy(other.flows, 0, flows, 0, MOST_GATES);
            System.arraycopy(other.streams, 0, streams, 0, MOST_GATES);
            System.arraycopy(other.worths, 0, worths, 0, MOST_VILLAGES);
            System.arraycopy(other.lately, 0, lately, 0, MOST_VILLAGES);
            System.arraycopy(other.servedDays, 0, servedDays, 0, MOST_THINGS);
            System.arraycopy(other.sums, 0, sums, 0, SUMS);
        }
    }

    /** How a DAY goes by. */
    private static final class Days {
        private Days() {
        }

        static boolean allows(Lake lake, State s, int village, int act, int law) {
            if (act == REST) {
                return true;
            }
            if (act != LIFT && act != SET || !lake.hasVillage(village) || law == LAW_REST) {
                return false;
            }
            if (law == LAW_PEACE && act == s.latest) {
                return false;
            }
            int gate = lake.villageGate[village];
            int joined = lake.gates.joined[gate];
            return fits(s.boards[gate], act, law) && (joined == NONE || fits(s.boards[joined], act, law));
        }

        private static boolean fits(int boards, int act, int law) {
            int low = law == LAW_NARROW ? NARROW_LOW : 0;
            int high = law == LAW_NARROW ? NARROW_HIGH : MOST_BOARDS;
            return act == LIFT ? boards - 1 >= low : boards + 1 <= high;
        }

        static int allowedBits(Lake lake, State s, int village) {
            int bits = 0;
            for (int act = REST; act < ACTS; act++) {
                bits |= allows(lake, s, village, act, LAW_PEACE) ? 1 << act : 0;
            }
            return bits;
        }

        static void pass(Lake lake, State s, int act) {
            doAct(lake, s, act);
            letFlow(lake, s);
            int rain = lake.rules.amount(RAIN, s.day, lake.levelAt(s.water), s.water);
            int ahead = s.water + rain;
            int spilt = Math.max(0, ahead - lake.holds);
            s.water = ahead - spilt;
            int air = Math.min(s.water, lake.rules.amount(AIR, s.day, lake.levelAt(s.water), s.water));
            s.water -= air;
            s.sums[RAINED] += rain;
            s.sums[SPILT] += spilt;
            s.sums[AIRED] += air;
            int loss = lake.levelAt(s.water) < lake.chapel ? lake.chapelLoss : 0;
            loss += lake.levelAt(ahead) > lake.bank ? lake.bankLoss : 0;
            giveWorth(lake, s, loss);
            s.day++;
        }

        private static void doAct(Lake lake, State s, int act) {
            if (act != REST) {
                moveBoards(lake, s, act == LIFT ? -1 : 1);
                s.latest = act;
            }
        }

        private static void moveBoards(Lake lake, State s, int by) {
            int village = lake.villageOn(s.day);
            if (village == NONE) {
                return;
            }
            int gate = lake.villageGate[village];
            int joined = lake.gates.joined[gate];
            s.boards[gate] += by;
            if (joined != NONE) {
                s.boards[joined] += by;
            }
        }

        /** What flows where by the boards, water and DAY as they are: all of it together. */
        static int setFlows(Lake lake, State s) {
            int level = lake.levelAt(s.water);
            int left = s.water;
            for (int g = 0; g < lake.gates.count; g++) {
                s.flows[g] = Math.min(left, lake.gates.fullFlow(g, s.boards[g], level, s.day));
                left -= s.flows[g];
            }
            return s.water - left;
        }

        private static void letFlow(Lake lake, State s) {
            int flown = setFlows(lake, s);
            s.water -= flown;
            s.sums[STREAMED] += flown;
            for (int g = 0; g < lake.gates.count; g++) {
                s.streams[g] += s.flows[g];
            }
        }

        private static void giveWorth(Lake lake, State s, int loss) {
            for (int v = 0; v < lake.villages; v++) {
                s.lately[v] = -loss;
            }
            Things things = lake.things;
            for (int t = 0; t < things.count; t++) {
                if (things.isServed(t, s.day, s.flows[things.gate[t]])) {
                    s.servedDays[t]++;
                    s.lately[things.village[t]] += things.worth[t];
                }
            }
            for (int v = 0; v < lake.villages; v++) {
                s.worths[v] += s.lately[v];
            }
        }

        /** The water of a DAY of rest when it has rained, ahead of what is SPILT. */
        static int waterAhead(Lake lake, State s) {
            int left = s.water - setFlows(lake, s);
            return left + lake.rules.amount(RAIN, s.day, lake.levelAt(left), left);
        }

        static boolean canLoseBoard(Lake lake, State s, int gate) {
            int joined = lake.gates.joined[gate];
            return s.boards[gate] > 0 && (joined == NONE || s.boards[joined] > 0);
        }

        static void loseBoard(Lake lake, State s, int gate) {
            int joined = lake.gates.joined[gate];
            s.boards[gate]--;
            if (joined != NONE) {
                s.boards[joined]--;
            }
        }

        /** Rows of so many ACTS; the state is afterwards as it was. */
        private static int countRows(Lake lake, State s, int left) {
            if (left <= 0) {
                return 1;
            }
            int rows = 0;
            int latest = s.latest;
            for (int act = REST; act < ACTS; act++) {
                if (allows(lake, s, lake.villageOn(s.day), act, LAW_PEACE)) {
                    doAct(lake, s, act);
                    s.day++;
                    rows += countRows(lake, s, left - 1);
                    s.day--;
                    if (act != REST) {
                        moveBoards(lake, s, act == LIFT ? 1 : -1);
                    }
                    s.latest = latest;
                }
            }
            return rows;
        }
    }

    /** The last DAYS that can be undone, in a ring. */
    private static final class Past {
        int count;
        private int next;
        private final State[] kept = new State[MOST_UNDONE];

        Past() {
            for (int k = 0; k < MOST_UNDONE; k++) {
                kept[k] = new State();
            }
        }

        void keep(State s) {
            kept[next].take(s);
            next = (next + 1) % MOST_UNDONE;
            count = Math.min(MOST_UNDONE, count + 1);
        }

        boolean bringBack(State s) {
            if (count <= 0) {
                return false;
            }
            next = (next + MOST_UNDONE - 1) % MOST_UNDONE;
            count--;
            s.take(kept[next]);
            return true;
        }
    }

    /** EACH FOR ITSELF and ALL FOR ALL, the last DAY first. */
    private static final class Plans {
        private final State[] states = new State[MOST_PLANNED + 1];
        // Row k: what the VILLAGES get, and the ACTS that are done, from the k-th DAY on.
        private final int[][] gains = new int[MOST_PLANNED + 1][MOST_VILLAGES];
        private final int[][] acts = new int[MOST_PLANNED + 1][MOST_PLANNED];
        private Lake lake;
        private int days;
        private boolean together;

        Plans(Lake told) {
            lake = told;
            for (int k = 0; k <= MOST_PLANNED; k++) {
                states[k] = new State();
            }
        }

        void make(Lake told, State now, int n, boolean forAll) {
            lake = told;
            days = Math.max(0, Math.min(MOST_PLANNED, n));
            together = forAll;
            states[0].take(now);
            plan(0);
        }

        int actOn(int k) {
            return k >= 0 && k < days ? acts[0][k] : NOTHING;
        }

        int gotBy(int village) {
            return village >= 0 && village < MOST_VILLAGES ? gains[0][village] : NOTHING;
        }

        int gotTogether() {
            return sum(gains[0]);
        }

        private void plan(int k) {
            if (k >= days) {
                for (int v = 0; v < MOST_VILLAGES; v++) {
                    gains[k][v] = 0;
                }
                return;
            }
            int village = lake.villageOn(states[k].day);
            boolean chosen = false;
            for (int act = REST; act < ACTS; act++) {
                if (Days.allows(lake, states[k], village, act, LAW_PEACE)) {
                    states[k + 1].take(states[k]);
                    Days.pass(lake, states[k + 1], act);
                    plan(k + 1);
                    addDay(k + 1);
                    if (!chosen || worthTo(village, k + 1) > worthTo(village, k)) {
                        choose(k, act);
                        chosen = true;
                    }
                }
            }
        }

        private int worthTo(int village, int k) {
            return together || village == NONE ? sum(gains[k]) : gains[k][village];
        }

        /** Adds to what is got from the k-th DAY on what the DAY ahead of it gave. */
        private void addDay(int k) {
            for (int v = 0; v < lake.villages; v++) {
                gains[k][v] += states[k].lately[v];
            }
        }

        private void choose(int k, int act) {
            for (int v = 0; v < MOST_VILLAGES; v++) {
                gains[k][v] = gains[k + 1][v];
            }
            for (int later = k + 1; later < days; later++) {
                acts[k][later] = acts[k + 1][later];
            }
            acts[k][k] = act;
        }

        private static int sum(int[] row) {
            int sum = 0;
            for (int value : row) {
                sum += value;
            }
            return sum;
        }
    }
}
