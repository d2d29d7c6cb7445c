/**
 * Years of a lake in which each DAY tells the boards: at LEVEL 20 all but the boards flows, the rain fills it again,
 * 10 and the boards are spilt, and the village gets 16 less its boards (0 at least).
 */
final class Years {
    static final String LAKE = "lake spread 1 holds 20 has 20;gate a plain boards 5 width 1;village v gate a;"
        + "rain 30 when all;" + things();
    private long seed;
    private final int boards;
    private final int latest;
    private final int day;

    Years(long seed, int day, int latest, int boards) {
        this.seed = seed;
        this.day = day;
        this.latest = latest;
        this.boards = boards;
    }

    private static String things() {
        StringBuilder all = new StringBuilder();
        for (int flow = 5; flow <= 20; flow++) {
            all.append("thing v gate a from " + flow + " to 9999 days 0 to 999 worth 1;");
        }
        return all.toString();
    }

    private int draw(int m) {
        seed = (1103515245L * seed + 12345L) % 2147483648L;
        return (int) (seed / 64 % m);
    }

    private static boolean allows(int law, int act, int b, int before) {
        int behind = act == 1 ? b - 1 : b + 1;
        switch (law) {
            case 0:
                return behind >= 0 && behind <= 20 && act != before;
            case 1:
                return behind >= 0 && behind <= 20;
            case 2:
                return behind >= 0 && behind <= 20 && (act == 1 ? behind >= 1 : behind <= 9);
            default:
                return false;
        }
    }

    /** What is due of so many years; they draw on. */
    long due(int law, int n, int days, int what) {
        long sum = 0;
        for (int year = 0; year < n; year++) {
            int b = boards;
            int before = latest;
            for (int d = day; d < day + days && d < 999; d++) {
                int act = draw(3);
                if (act != 0 && allows(law, act, b, before)) {
                    b += act == 1 ? -1 : 1;
                    before = act;
                }
                sum += what == 0 ? Math.max(0, 16 - b) : 10 + b;
            }
        }
        return sum;
    }

    /** The object's years are those that are due. */
    void same(NineBoards x, int law, int n, int days, int what) {
        Checks.same("years(" + law + ", " + n + ", " + days + ", " + what + ") with " + boards + " boards on DAY "
            + day,
            x.years(law, n, days, what), due(law, n, days, what));
    }
}
