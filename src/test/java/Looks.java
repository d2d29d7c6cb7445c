import java.util.ArrayList;
import java.util.List;

/** All that an object tells of its lake without being changed by it. */
final class Looks {
    private Looks() {
    }

    static List<Long> at(NineBoards x) {
        List<Long> all = new ArrayList<>();
        for (int k = 0; k <= 8; k++) {
            all.add((long) x.has(k));
        }
        for (int k = 0; k <= 4; k++) {
            all.add(x.all(k));
        }
        for (int g = 0; g < x.has(0); g++) {
            all.add(x.stream(g));
            all.add((long) x.letter(0, g, 0));
            for (int k = 0; k <= 5; k++) {
                all.add((long) x.gate(g, k));
            }
        }
        for (int v = 0; v < x.has(1); v++) {
            all.add((long) x.letter(1, v, 0));
            for (int k = 0; k <= 4; k++) {
                all.add((long) x.village(v, k));
            }
        }
        for (int t = 0; t < x.has(2); t++) {
            all.add((long) x.served(t));
        }
        for (int k = 0; k < 15; k++) {
            all.add((long) x.octet(k));
        }
        return all;
    }

    /** All is as it was at an earlier look. */
    static void stay(String behind, NineBoards x, List<Long> ahead) {
        List<Long> now = at(x);
        Checks.holds("all stays behind " + behind + ": " + ahead + ", then " + now, now.equals(ahead));
    }

    /** The tape has so many bytes, and keeps them. */
    static void tape(String behind, NineBoards x, int bytes) {
        Checks.holds("behind " + behind + " the tape has " + bytes + " bytes at most", !x.end(bytes + 1));
        Checks.holds("behind " + behind + " the tape has " + bytes + " bytes", x.end(bytes));
    }
}
