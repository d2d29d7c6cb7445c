/** Promises 27 to 29: boards lifted by night, seen at dawn. */
public final class NightTest {
    private static final int NONE = NineBoards.NONE;
    // Level 20: a 16 boards, 4; b 20 boards, leaks 5; c 15 boards, 10; d joined to c, 20 boards, 0.
    private static final String FOUR = "lake spread 20 holds 999 has 400;gate a plain boards 16 width 1;"
        + "gate b leaks 5 boards 20 width 2;gate c plain boards 15 width 2;gate d steps 2 boards 20 width 1;"
        + "join c d;village v gate a;";

    private NightTest() {
    }

    public static void main(String[] args) {
        steal();
        thief();
        thiefWithoutBoards();
        thiefOfMuch();
        beaver();
        wrongTapes();
        lastDay();
        Checks.finish("NightTest");
    }

    private static void thief(NineBoards x, int want, int... flows) {
        Checks.put(x, Checks.seen(flows));
        Checks.same("thief()", x.thief(), want);
        Checks.same("the tape went", x.feed(0, 0, 0, 0, 0), 20);
    }

    private static void beaver(NineBoards x, int want, int... flows) {
        Checks.put(x, Checks.seen(flows));
        Checks.same("beaver()", x.beaver(), want);
        Checks.same("the tape went", x.feed(0, 0, 0, 0, 0), 20);
    }

    private static void steal() {
        NineBoards x = Checks.lake("lake spread 1 holds 99 has 9;gate a plain boards 1 width 1;"
            + "gate b plain boards 2 width 1;gate c plain boards 1 width 1;join b c;village v gate a;");
        x.act(1);
        Checks.same("none at a any more", x.steal(0), NONE);
        Checks.same("one of two", x.steal(1), 1);
        Checks.same("the joined one's, too", x.gate(2, 1), 0);
        Checks.same("the joined one has none", x.steal(1), NONE);
        Checks.same("it has none", x.steal(2), NONE);
        Checks.same("it keeps its own", x.gate(1, 1), 1);
        Checks.same("no such", x.steal(3), NONE);
        Checks.same("no such", x.steal(-1), NONE);
        Checks.same("no DAY", x.has(4), 1);
        Checks.same("no DAY to undo", x.has(8), 1);
        Checks.same("no ACT", x.has(7), 1);
        Checks.same("no water", x.all(3), 9);
    }

    private static void thief() {
        NineBoards x = Checks.lake(FOUR);
        // b keeps its 5 with 19 boards, and gets 2 more by HEAD 1.
        thief(x, 512, 4, 5, 10, 0);
        thief(x, 1, 5, 5, 10, 0);
        thief(x, 2, 4, 7, 10, 0);
        // d's HEAD 1 gives no whole step of 2; both bits, for each is joined to the other.
        thief(x, 4 + 8, 4, 5, 12, 0);
        thief(x, 0, 5, 7, 10, 0);
        thief(x, 0, 0, 0, 0, 0);
        Checks.same("boards stay", x.gate(0, 1), 16);
        x.steal(2);
        thief(x, 512, 4, 5, 12, 0);
        thief(x, 4 + 8, 4, 5, 14, 2);
    }

    private static void thiefWithoutBoards() {
        NineBoards x = Checks.lake("lake spread 1 holds 9 has 2;gate a plain boards 0 width 1;"
            + "gate b plain boards 8 width 1;gate c plain boards 0 width 1;gate d plain boards 9 width 1;join a d;");
        // Boards above the LEVEL: one less changes nothing, but a can lose none, so d can't, and c can't.
        thief(x, 512 + 2, 2, 0, 0, 0);
        NineBoards none = new NineBoards();
        Checks.same("without GATES", none.thief(), 512);
        Checks.same("without GATES", none.beaver(), NONE);
    }

    private static void thiefOfMuch() {
        NineBoards x = Checks.lake("lake spread 5 holds 9999 has 5000;gate a plain boards 1 width 2;");
        thief(x, 512, 1998);
        thief(x, 1, 2000);
        beaver(x, 0, 1997);
        beaver(x, NONE, 2000);
    }

    private static void beaver() {
        NineBoards x = Checks.lake(FOUR);
        beaver(x, NONE, 4, 5, 10, 0);
        beaver(x, 0, 3, 5, 10, 0);
        beaver(x, 0, 0, 5, 10, 0);
        beaver(x, 1, 4, 4, 10, 0);
        beaver(x, 2, 4, 5, 9, 0);
        beaver(x, NONE, 4, 5, 9, 1);
        beaver(x, NONE, 4, 5, 11, 0);
        beaver(x, NONE, 3, 4, 10, 0);
        beaver(x, NONE, 5, 4, 10, 0);
    }

    private static void wrongTapes() {
        NineBoards x = Checks.lake(FOUR);
        int[][] tapes = {{}, {0, 4, 0, 5, 0, 10, 0}, {0, 4, 0, 5, 0, 10, 0, 0, 0}, {0, 4, 0, 5, 0, 10, 0, 0, 0, 0}};
        for (int[] tape : tapes) {
            Checks.put(x, tape);
            Checks.same("thief()", x.thief(), NONE);
            Checks.same("the tape went", x.feed(0, 0, 0, 0, 0), 20);
            Checks.put(x, tape);
            Checks.same("beaver()", x.beaver(), NONE);
            Checks.same("the tape went", x.feed(0, 0, 0, 0, 0), 20);
        }
    }

    private static void lastDay() {
        NineBoards x = Checks.lake("lake spread 1 holds 9 has 5;gate a plain boards 9 width 1;rain 5-water when all;");
        for (int k = 0; k < 10; k++) {
            x.rest(99);
        }
        x.rest(8);
        thief(x, 512 + 1, 0);
        x.rest(1);
        Checks.same("DAY", x.has(4), 999);
        thief(x, NONE, 0);
        beaver(x, NONE, 0);
        Checks.same("steal on DAY 999 is no ACT", x.steal(0), 8);
    }
}
