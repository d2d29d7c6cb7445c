/** All promises once more with as much of everything as there may be: 9 GATES, 6 VILLAGES, 16 THINGS, 8 RULES. */
public final class FullTest {
    private FullTest() {
    }

    private static String lake() {
        StringBuilder text = new StringBuilder("lake spread 480 holds 9999 has 9999;");
        for (char g = 'a'; g <= 'i'; g++) {
            text.append("gate ").append(g).append(" plain boards 19 width 1;");
        }
        for (char v = 'p'; v <= 'u'; v++) {
            text.append("village ").append(v).append(" gate ").append((char) (v - 'p' + 'd')).append(';');
        }
        for (int t = 0; t < 16; t++) {
            text.append("thing ").append((char) ('p' + t % 6)).append(" gate i from 1 to 2 days 0 to 9 worth 1;");
        }
        for (int r = 0; r < 7; r++) {
            text.append("rain ").append(r).append(" when day=").append(r).append(';');
        }
        return text.append("air 2 when all;").toString();
    }

    public static void main(String[] args) {
        NineBoards x = Checks.lake(lake());
        int[] has = {9, 6, 16, 8, 0, 9999, 20, 0, 0};
        for (int k = 0; k < has.length; k++) {
            Checks.same("has(" + k + ")", x.has(k), has[k]);
        }
        Checks.same("seven rules of rain", x.weather(6, 5, false), 6);
        Checks.same("and one of air", x.weather(6, 5, true), 2);
        Checks.same("the last GATE", x.gate(8, 4), 1);
        Checks.same("the last VILLAGE", x.village(5, 0), 8);
        Checks.same("the last VILLAGE's DAY", x.village(5, 3), 5);
        Checks.same("rows", x.rows(6), 127);
        Checks.same("today", x.today(5, 0), 0);
        Checks.same("selfish", x.selfish(6, 15), 2 * 6);
        Checks.same("common", x.common(6, 9), 16 * 6);
        Checks.same("share", x.share(6, 0), 3 * 6);
        Checks.same("first", x.first(9999, 50), 0);
        Checks.same("years", x.years(3, 20, 1, 0), 16 * 20);
        Checks.same("image", x.image(), 15);
        Checks.same("the last boards", x.octet(13), 19);
        Checks.holds("the check byte", x.octet(14) >= 0);
        Checks.same("behind it", x.octet(15), NineBoards.NONE);
        int[] image = new int[15];
        for (int k = 0; k < 15; k++) {
            image[k] = x.octet(k);
        }
        Checks.same("DAY 0: 9 flow, none falls, 2 go", x.act(0), 20);
        Checks.same("the last THING", x.served(15), 1);
        Checks.same("the last GATE's stream", x.stream(8), 1);
        Checks.same("the last VILLAGE's WORTH", x.village(5, 1), 2);
        Checks.same("the first VILLAGE's WORTH", x.village(0, 1), 3);
        Checks.holds("undo", x.undo());
        Checks.same("not served", x.served(15), 0);
        Checks.same("nothing flowed", x.stream(8), 0);
        Checks.put(x, image);
        Checks.holds("on()", x.on());
        int[] seen = {0, 1, 0, 1, 0, 1, 0, 1, 0, 1, 0, 1, 0, 1, 0, 1, 0, 2};
        Checks.put(x, seen);
        Checks.same("thief at the last GATE", x.thief(), 256);
        seen[17] = 0;
        Checks.put(x, seen);
        Checks.same("beaver at the last GATE", x.beaver(), 8);
        Checks.same("steal at the last GATE", x.steal(8), 18);
        Checks.same("letter of the last GATE", x.letter(0, 8, 0), 9);
        Checks.same("letter of the last VILLAGE", x.letter(1, 5, 0), 21);
        Checks.same("need of the last THING", x.need(15), 18);
        Checks.same("both of the last THINGS", x.both(14, 15), 1);
        Checks.finish("FullTest");
    }
}
