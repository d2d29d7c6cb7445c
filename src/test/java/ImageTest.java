/** Promises 32 to 34: images written, told and taken. */
public final class ImageTest {
    private static final int NONE = NineBoards.NONE;
    private static final String LAKE = "lake spread 1 holds 700 has 600;gate a plain boards 5 width 1;"
        + "gate b plain boards 20 width 1;gate c plain boards 0 width 1;join a c;village v gate b;village w gate b;"
        + "thing v gate b from 0 to 999 days 0 to 999 worth 3;rain 1 when all;air 2 when all;";

    private ImageTest() {
    }

    public static void main(String[] args) {
        written();
        taken();
        edges();
        refused();
        ofAnotherLake();
        Checks.finish("ImageTest");
    }

    private static void told(NineBoards x, int[] want) {
        for (int k = 0; k < want.length; k++) {
            Checks.same("octet(" + k + ")", x.octet(k), want[k]);
        }
        Checks.same("octet behind", x.octet(want.length), NONE);
    }

    private static void written() {
        NineBoards x = Checks.lake(LAKE);
        Checks.same("ahead of any", x.octet(0), NONE);
        Checks.same("image()", x.image(), 9);
        told(x, Checks.image(0, 600, 0, 5, 20, 0));
        Checks.same("octet(-1)", x.octet(-1), NONE);
        Checks.same("octet(far)", x.octet(Integer.MAX_VALUE), NONE);
        Checks.same("octet(far)", x.octet(Integer.MIN_VALUE), NONE);
        x.act(1);
        told(x, Checks.image(0, 600, 0, 5, 20, 0));
        Checks.same("image()", x.image(), 9);
        told(x, Checks.image(1, x.has(5), 1, 5, 19, 0));
        Checks.put(x, "lake spread 1 holds 1 has 1;");
        x.lake();
        told(x, Checks.image(1, 0, 1, 5, 19, 0));
        Checks.same("a shorter one", x.image(), 6);
        told(x, Checks.image(0, 1, 0));
    }

    private static void taken() {
        NineBoards x = Checks.lake(LAKE);
        x.act(1);
        x.act(2);
        Checks.put(x, Checks.image(300, 513, 1, 7, 8, 9));
        Checks.holds("on()", x.on());
        int[] has = {3, 2, 1, 2, 300, 513, 513, 1, 0};
        for (int k = 0; k < has.length; k++) {
            Checks.same("has(" + k + ")", x.has(k), has[k]);
        }
        int[] all = {513, 0, 0, 0, 0};
        for (int k = 0; k < all.length; k++) {
            Checks.same("all(" + k + ")", x.all(k), all[k]);
        }
        for (int g = 0; g < 3; g++) {
            Checks.same("boards", x.gate(g, 1), 7 + g);
            Checks.same("latest flow", x.gate(g, 5), 0);
            Checks.same("stream", x.stream(g), 0);
        }
        for (int v = 0; v < 2; v++) {
            Checks.same("WORTH", x.village(v, 1), 0);
            Checks.same("WORTH lately", x.village(v, 2), 0);
        }
        Checks.same("served", x.served(0), 0);
        Checks.holds("nothing to undo", !x.undo());
        Checks.same("the tape went", x.feed(0, 0, 0, 0, 0), 20);
        Checks.same("no lift behind the latest", x.act(1), NONE);
        Checks.holds("a set", x.act(2) >= 0);
    }

    private static void edges() {
        NineBoards x = Checks.lake(LAKE);
        Checks.put(x, Checks.image(999, 700, 2, 20, 0, 20));
        Checks.holds("most", x.on());
        Checks.same("DAY 999", x.act(0), NONE);
        Checks.put(x, Checks.image(0, 0, 0, 0, 0, 0));
        Checks.holds("least", x.on());
        Checks.same("water", x.has(5), 0);
    }

    private static void refused() {
        NineBoards x = Checks.lake(LAKE);
        x.act(1);
        int water = x.has(5);
        int[] check = Checks.image(5, 6, 1, 1, 2, 3);
        check[8] = (check[8] + 1) % 256;
        int[] more = Checks.image(5, 6, 1, 1, 2, 3);
        more[8] += 251 <= 255 - more[8] ? 251 : 1;
        int[][] bad = {Checks.image(1000, 6, 1, 1, 2, 3), Checks.image(65535, 6, 1, 1, 2, 3),
            Checks.image(5, 701, 1, 1, 2, 3),
            Checks.image(5, 6, 3, 1, 2, 3), Checks.image(5, 6, 1, 21, 2, 3), Checks.image(5, 6, 1, 1, 2, 21),
            Checks.image(5, 6, 1, 1, 255, 2),
            Checks.image(5, 6, 1, 1, 2), Checks.image(5, 6, 1, 1, 2, 3, 4), check, more, {}, {67}};
        for (int[] data : bad) {
            Checks.put(x, data);
            Checks.holds("on() of none", !x.on());
            Checks.same("the tape went", x.feed(0, 0, 0, 0, 0), 20);
        }
        int[] has = {3, 2, 1, 2, 1, water, water, 1, 1};
        for (int k = 0; k < has.length; k++) {
            Checks.same("has(" + k + ") stays", x.has(k), has[k]);
        }
        Checks.same("boards stay", x.gate(1, 1), 19);
        Checks.same("WORTH stays", x.village(0, 1), 3);
    }

    private static void ofAnotherLake() {
        NineBoards x = Checks.lake(LAKE);
        x.rest(7);
        int size = x.image();
        int[] data = new int[size];
        for (int k = 0; k < size; k++) {
            data[k] = x.octet(k);
        }
        NineBoards y = Checks.lake(LAKE);
        Checks.put(y, data);
        Checks.holds("on()", y.on());
        for (int k = 0; k <= 7; k++) {
            Checks.same("has(" + k + ")", y.has(k), x.has(k));
        }
        Checks.same("goes on alike", y.act(1), x.act(1));
        Checks.same("flows alike", y.gate(1, 5), x.gate(1, 5));
    }
}
