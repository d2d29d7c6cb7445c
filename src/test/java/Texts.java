import java.util.ArrayList;
import java.util.List;
import java.util.Random;

/** Random lakes as texts, and texts with something spoiled. */
final class Texts {
    private static final String[] WORDS = {"lake", "spread", "holds", "has", "gate", "plain", "leaks", "steps",
        "frozen", "to", "boards", "width", "join", "village", "thing", "from", "days", "worth", "chapel", "loss",
        "bank", "rain", "air", "when", "or", "and", "not", "all", "day", "level", "water", "min", "max"};
    private static final String[] BITS = {";", " ", "\n", "(", ")", "[", "]", ",", "+", "-", "*", "/", "<", ">", "=",
        "0", "7", "12345", "00001", "9999", "a", "abcdef", "abcdefg", "Q", "\t", "\u00e9", "x1", "5to", "not ", "zz"};
    private final Random random;
    private final StringBuilder text = new StringBuilder();
    private final List<String> gates = new ArrayList<>();
    private final List<String> villages = new ArrayList<>();
    private int inside;

    Texts(Random random) {
        this.random = random;
    }

    private int upTo(int n) {
        return random.nextInt(n + 1);
    }

    private String any(List<String> names) {
        return names.get(random.nextInt(names.size()));
    }

    private String newName() {
        StringBuilder b = new StringBuilder();
        for (int k = 1 + upTo(5); k > 0; k--) {
            b.append((char) ('a' + upTo(25)));
        }
        String s = b.toString();
        boolean taken = gates.contains(s) || villages.contains(s) && upTo(9) > 0;
        return taken || List.of(WORDS).contains(s) ? newName() : s;
    }

    private void add(Object... parts) {
        for (Object part : parts) {
            text.append(part);
            text.append(upTo(30) == 0 ? "\n " : " ");
        }
    }

    private void end() {
        if (upTo(1) == 0) {
            text.setLength(text.length() - 1);
        }
        text.append(upTo(1) == 0 ? ";" : "; ");
    }

    String lake() {
        int spread = upTo(2) == 0 ? 1 + upTo(998) : 1 + upTo(9);
        int holds = upTo(2) == 0 ? 1 + upTo(9998) : 1 + upTo(spread * 25);
        holds = Math.min(9999, holds);
        add("lake", "spread", spread, "holds", holds, "has", upTo(holds));
        end();
        int count = upTo(9) == 0 ? 9 : upTo(5);
        for (int g = 0; g < count; g++) {
            gate();
        }
        for (int v = gates.isEmpty() ? 0 : upTo(9) == 0 ? 6 : upTo(3); v > 0; v--) {
            String name = newName();
            add("village", name, "gate", any(gates));
            villages.add(name);
            end();
        }
        for (int t = villages.isEmpty() ? 0 : upTo(9) == 0 ? 16 : upTo(5); t > 0; t--) {
            thing(holds);
        }
        if (upTo(1) == 0) {
            add("chapel", upTo(holds / spread + 1), "loss", upTo(99));
            end();
        }
        if (upTo(1) == 0) {
            add("bank", upTo(holds / spread + 1), "loss", upTo(99));
            end();
        }
        for (int r = upTo(4); r > 0; r--) {
            add(upTo(2) == 0 ? "air" : "rain");
            sum();
            add("when");
            test();
            end();
        }
        joins();
        return text.toString();
    }

    /** A lake in which one board more or less is worth something, to one village much, to another little. */
    String lively() {
        int spread = 1 + upTo(4);
        int level = 4 + upTo(14);
        add("lake", "spread", spread, "holds", spread * (level + upTo(8)) + upTo(spread - 1), "has", spread * level);
        end();
        for (int g = 1 + upTo(4); g >= 0; g--) {
            gate(level, 2);
        }
        for (int v = 1 + upTo(upTo(2) == 0 ? 4 : 1); v >= 0; v--) {
            String name = newName();
            add("village", name, "gate", any(gates));
            villages.add(name);
            end();
        }
        for (int t = 5 + upTo(10); t >= 0; t--) {
            int from = upTo(12);
            add("thing", any(villages), "gate", any(gates), "from", from, "to", from + upTo(2), "days", upTo(3), "to",
                upTo(3) == 0 ? 3 + upTo(9) : 999, "worth", 1 + upTo(upTo(1) == 0 ? 98 : 8));
            end();
        }
        add("chapel", Math.max(0, level - upTo(4)), "loss", upTo(9));
        end();
        add("bank", level + upTo(6), "loss", upTo(9));
        end();
        add("rain", upTo(1) == 0 ? "" : "day *", upTo(3 * spread), "when");
        test();
        end();
        add("rain", upTo(12 * spread), "when all");
        end();
        add("air", upTo(2), "when all");
        end();
        joins();
        return text.toString();
    }

    private void gate() {
        gate(upTo(5) == 0 ? 20 : 10, upTo(3) == 0 ? 98 : 3);
    }

    private void gate(int boards, int width) {
        String name = newName();
        add("gate", name);
        gates.add(name);
        switch (upTo(4)) {
            case 0:
                add("leaks", 1 + upTo(98));
                break;
            case 1:
                add("steps", 1 + upTo(8));
                break;
            case 2:
                int from = upTo(20);
                add("frozen", from, "to", from + upTo(10));
                break;
            default:
                add("plain");
                break;
        }
        add("boards", upTo(boards), "width", 1 + upTo(width));
        end();
    }

    private void thing(int holds) {
        int from = upTo(2) == 0 ? 0 : upTo(Math.min(holds, 40));
        int day = upTo(10);
        add("thing", any(villages), "gate", any(gates), "from", from, "to", Math.min(9999, from + upTo(30)));
        add("days", day, "to", Math.min(999, day + (upTo(1) == 0 ? 989 : upTo(20))), "worth", 1 + upTo(98));
        end();
    }

    private void joins() {
        List<String> free = new ArrayList<>(gates);
        for (int k = upTo(2); k > 0 && free.size() >= 2; k--) {
            add("join", free.remove(random.nextInt(free.size())), free.remove(random.nextInt(free.size())));
            end();
        }
    }

    private void sum() {
        product();
        for (int k = upTo(4) == 0 ? 1 + upTo(2) : 0; k > 0; k--) {
            add(upTo(1) == 0 ? "+" : "-");
            product();
        }
    }

    private void product() {
        part();
        for (int k = upTo(4) == 0 ? 1 + upTo(2) : 0; k > 0; k--) {
            add(upTo(1) == 0 ? "*" : "/");
            part();
        }
    }

    private void part() {
        int sort = inside >= 5 ? upTo(5) : inside > 0 ? upTo(6) : upTo(8);
        if (sort <= 2) {
            add(upTo(3) == 0 ? upTo(9999) : upTo(40));
        } else if (sort <= 5) {
            add(new String[] {"day", "level", "water"}[sort - 3]);
        } else {
            boolean pair = upTo(1) == 0;
            add(pair ? upTo(1) == 0 ? "min" : "max" : "", "(");
            inside++;
            sum();
            if (pair) {
                add(",");
                sum();
            }
            inside--;
            add(")");
        }
    }

    private void test() {
        both();
        while (upTo(4) == 0) {
            add("or");
            both();
        }
    }

    private void both() {
        fact();
        while (upTo(4) == 0) {
            add("and");
            fact();
        }
    }

    private void fact() {
        int sort = upTo(9);
        if (sort == 0 && inside < 6) {
            inside++;
            add("not");
            fact();
            inside--;
        } else if (sort == 1 && inside < 6) {
            inside++;
            add("[");
            test();
            add("]");
            inside--;
        } else if (sort <= 3) {
            add("all");
        } else {
            sum();
            add(new String[] {"<", ">", "="}[upTo(2)]);
            sum();
        }
    }

    /** A text of which a byte, a piece or an end is no more what it was. */
    String spoiled(String whole) {
        StringBuilder b = new StringBuilder(whole);
        for (int times = upTo(9) == 0 ? 3 : 1; times > 0; times--) {
            int at = upTo(b.length());
            String piece = upTo(1) == 0 ? WORDS[upTo(WORDS.length - 1)] : BITS[upTo(BITS.length - 1)];
            switch (upTo(8)) {
                case 0:
                    b.setLength(at);
                    break;
                case 5:
                    numberInstead(b, at);
                    break;
                case 6:
                    deep(b);
                    break;
                case 7:
                    nameInstead(b, at);
                    break;
                case 1:
                    b.insert(at, piece);
                    break;
                case 2:
                    b.insert(at, " " + piece + " ");
                    break;
                case 3:
                    b.delete(at, Math.min(b.length(), at + 1 + upTo(3)));
                    break;
                case 4:
                    wordInstead(b, at, piece);
                    break;
                default:
                    again(b, at);
                    break;
            }
        }
        return b.toString();
    }

    private void numberInstead(StringBuilder b, int at) {
        int from = at;
        while (from < b.length() && !Character.isDigit(b.charAt(from))) {
            from++;
        }
        int to = from;
        while (to < b.length() && Character.isDigit(b.charAt(to))) {
            to++;
        }
        int[] most = {3, 25, 110, 1100, 9999, 99999};
        b.replace(from, to, String.valueOf(upTo(most[upTo(5)])));
    }

    /** A word is put again where another stands. */
    private void nameInstead(StringBuilder b, int at) {
        String[] pieces = b.toString().split("[^a-z]+");
        wordInstead(b, at, pieces.length > 0 ? pieces[upTo(pieces.length - 1)] : "a");
    }

    /** A rule with about as many open at once as may be. */
    private void deep(StringBuilder b) {
        StringBuilder ends = new StringBuilder();
        b.append("rain 1 when ");
        int facts = upTo(7);
        for (int k = 0; k < facts; k++) {
            boolean not = upTo(1) == 0;
            b.append(not ? "not " : "[");
            ends.insert(0, not ? "" : "]");
        }
        StringBuilder sums = new StringBuilder();
        for (int k = 4 + upTo(3) - facts; k > 0; k--) {
            int sort = upTo(2);
            b.append(sort == 0 ? "(" : sort == 1 ? "min(" : "max(day,");
            sums.insert(0, sort == 1 ? ",level)" : ")");
        }
        b.append("water").append(sums).append(upTo(1) == 0 ? "<(3)" : "=0").append(ends).append(';');
    }

    private void wordInstead(StringBuilder b, int at, String piece) {
        int from = at;
        while (from > 0 && b.charAt(from - 1) != ' ') {
            from--;
        }
        int to = at;
        while (to < b.length() && b.charAt(to) != ' ') {
            to++;
        }
        b.replace(from, to, piece);
    }

    /** A statement stands again and again. */
    private void again(StringBuilder b, int at) {
        String s = b.toString();
        int from = s.lastIndexOf(';', at) + 1;
        int to = s.indexOf(';', from) + 1;
        if (to > from) {
            int times = upTo(2) == 0 ? 60 : 1 + upTo(8);
            b.insert(to, s.substring(from, to).repeat(Math.min(times, Math.max(1, 1200 / (to - from)))));
        }
    }
}
