/** Promises 1 to 5 and 7: a new object, the tape, the lake's text and its faults, names. */
public final class TextTest {
    private static final String LAKE = "lake spread 1 holds 5 has 0;";
    private static final String GATE = LAKE + "gate g plain boards 1 width 1;";
    private static final String VILLAGE = GATE + "village v gate g;";

    private TextTest() {
    }

    public static void main(String[] args) {
        newObject();
        tape();
        goodTexts();
        textsThatDoNotGoOn();
        wordsAndNumbersSideBySide();
        numbersThatCannotBe();
        namesThatCannotBe();
        tooDeep();
        tooMany();
        faultsChangeNothing();
        anotherLake();
        letters();
        Checks.finish("TextTest");
    }

    private static void newObject() {
        NineBoards x = new NineBoards();
        for (int k = 0; k <= 8; k++) {
            Checks.same("new has(" + k + ")", x.has(k), 0);
        }
        Checks.same("spread 1", x.weather(0, 0, false), 0);
        Checks.put(x, Checks.image(0, 1, 0));
        Checks.holds("it holds 1", x.on());
        Checks.same("LEVEL by spread 1", x.has(6), 1);
        Checks.put(x, Checks.image(0, 2, 0));
        Checks.holds("it holds no 2", !x.on());
        Checks.same("a DAY without GATES", x.act(0), 1);
    }

    private static void tape() {
        NineBoards x = new NineBoards();
        Checks.holds("end(-1)", !x.end(-1));
        Checks.holds("end(1) of none", !x.end(1));
        Checks.holds("end(0) of none", x.end(0));
        for (int k = 1; k <= 80; k++) {
            Checks.same("feed", x.feed(0, 0, 0, 0, 0), 20 * k);
        }
        Checks.same("feed beyond 1600", x.feed(1, 2, 3, 4, 5), NineBoards.NONE);
        Checks.holds("end(1601)", !x.end(1601));
        Checks.holds("end(1600)", x.end(1600));
        Checks.holds("end(1581)", x.end(1581));
        Checks.same("feed beyond 1600 by one", x.feed(1, 2, 3, 4, 5), NineBoards.NONE);
        Checks.holds("end(1580)", x.end(1580));
        Checks.same("feed up to 1600", x.feed(1, 2, 3, 4, 5), 1600);
        x.lake();
        Checks.same("the tape went", x.feed(0x80818283, 0xf0f1f2f3, 0, 0, 0), 20);
        x.lake();
        Checks.same("a byte above 127", x.fault(1), 0);
        // The highest byte comes first: "lake" is 6c 61 6b 65.
        x.feed(0x6c616b65, 0x20737072, 0x65616420, 0x3120686f, 0x6c647320);
        x.feed(0x35206861, 0x7320333b, 0x20202020, 0x20202020, 0x20202020);
        Checks.same("a lake by numbers", x.lake(), 1);
        Checks.same("its water", x.has(5), 3);
        x.feed(0, 0, 0, 0, 0);
        x.lake();
        Checks.same("zero bytes", x.fault(0), 1);
    }

    private static void goodTexts() {
        Checks.good(LAKE);
        Checks.good(" \n lake\nspread 0999 holds 9999 has 9999 ; \n ");
        Checks.good("lake spread 1 holds 1 has 0;");
        Checks.good(GATE + "gate abcdef leaks 1 boards 0 width 99;gate h leaks 99 boards 20 width 1;");
        Checks.good(LAKE + "gate a steps 1 boards 0 width 1;gate b steps 9 boards 0 width 1;join b a;");
        Checks.good(LAKE + "gate a frozen 0 to 0 boards 0 width 1;gate b frozen 999 to 999 boards 0 width 1;");
        Checks.good(VILLAGE + "thing v gate g from 0 to 0 days 0 to 0 worth 1;");
        Checks.good(VILLAGE + "thing v gate g from 9999 to 9999 days 999 to 999 worth 99;");
        Checks.good(LAKE + "chapel 0 loss 0;bank 9999 loss 99;chapel 9999 loss 99;bank 0 loss 0;");
        Checks.good(LAKE + "rain 9999 when all;air min(1,max(day,level))when not[water=0]and 1<2 or(1)>2;");
        Checks.good(LAKE + "chapel 1 loss 1;".repeat(59));
    }

    private static void textsThatDoNotGoOn() {
        Checks.bad(1, "^");
        Checks.bad(1, " \n ^");
        Checks.bad(1, "^;");
        Checks.bad(1, "^gate g plain boards 1 width 1;");
        Checks.bad(1, "^Lake spread 1 holds 5 has 0;");
        Checks.bad(1, "lake ^spr");
        Checks.bad(1, "lake ^spreads 1 holds 5 has 0;");
        Checks.bad(1, "lake^\tspread 1 holds 5 has 0;");
        Checks.bad(1, "lake spread ^holds 5 has 0;");
        Checks.bad(1, "lake spread ^-1 holds 5 has 0;");
        Checks.bad(1, "lake spread 1 holds 5 has 0^");
        Checks.bad(1, "lake spread 1 holds 5 has 0 \n^");
        Checks.bad(1, LAKE + "^;");
        Checks.bad(1, LAKE + "^lake spread 1 holds 5 has 0;");
        Checks.bad(1, LAKE + "^spread");
        Checks.bad(1, LAKE + "^12345");
        Checks.bad(1, LAKE + "gate ^village plain boards 1 width 1;");
        Checks.bad(1, LAKE + "gate ^max plain boards 1 width 1;");
        Checks.bad(1, LAKE + "gate abcdef^g plain boards 1 width 1;");
        Checks.bad(1, LAKE + "gate spread^x plain boards 1 width 1;");
        Checks.bad(1, LAKE + "gate ^5 plain boards 1 width 1;");
        Checks.bad(1, LAKE + "gate a ^round boards 1 width 1;");
        Checks.bad(1, LAKE + "gate a plain ^width 1;");
        Checks.bad(1, LAKE + "gate a plain boards 1 width 1^");
        Checks.bad(1, LAKE + "gate a plain boards 1 width 1 ^gate");
        Checks.bad(1, LAKE + "gate a frozen 1 ^2 boards 1 width 1;");
        Checks.bad(1, VILLAGE + "thing v gate g from 1 to 2 days 1 to 2 ^;");
        Checks.bad(1, LAKE + "chapel 1^;");
        Checks.bad(1, LAKE + "bank 1 loss ^all;");
        Checks.bad(1, LAKE + "rain ^when all;");
        Checks.bad(1, LAKE + "rain 1 ^;");
        Checks.bad(1, LAKE + "rain 1 when ^;");
        Checks.bad(1, LAKE + "rain 1 when 1 ^;");
        Checks.bad(1, LAKE + "rain 1 when 1 <^= 2;");
        Checks.bad(1, LAKE + "rain 1 when all ^all;");
        Checks.bad(1, LAKE + "rain 1 when (1 ^< 2);");
        Checks.bad(1, LAKE + "rain 1 when [1 < 2^;");
        Checks.bad(1, LAKE + "rain 1 when [1 < 2^);");
        Checks.bad(1, LAKE + "rain min ^1 when all;");
        Checks.bad(1, LAKE + "rain min(1^) when all;");
        Checks.bad(1, LAKE + "rain max(1,2^,3) when all;");
        Checks.bad(1, LAKE + "rain 1+ ^when all;");
        Checks.bad(1, LAKE + "rain ^-1 when all;");
        Checks.bad(1, LAKE + "rain 1234^5 when all;");
        Checks.bad(1, LAKE + "rain ^all when all;");
        Checks.bad(1, LAKE + "rain ^g when all;");
        Checks.bad(1, LAKE + "rain 1 when not ^and all;");
    }

    private static void wordsAndNumbersSideBySide() {
        Checks.bad(1, "lake spread^1 holds 5 has 0;");
        Checks.bad(1, "lake spread 1^holds 5 has 0;");
        Checks.bad(1, "^lakespread 1 holds 5 has 0;");
        Checks.bad(1, LAKE + "rain 1^when all;");
        Checks.bad(1, LAKE + "rain day when day^1;");
        Checks.bad(2, "lake spread ^1000holds 5 has 0;");
        Checks.bad(1, "lake spread 1234^56 holds 5 has 0;");
        Checks.bad(1, "lake spread 0000^1 holds 5 has 0;");
        Checks.good("lake\nspread\n1\nholds\n5\nhas\n0\n;");
    }

    private static void numbersThatCannotBe() {
        Checks.bad(2, "lake spread ^0 holds 5 has 0;");
        Checks.bad(2, "lake spread ^1000 holds 5 has 0;");
        Checks.bad(2, "lake spread 1 holds ^0 has 0;");
        Checks.bad(2, "lake spread 1 holds 5 has ^6;");
        Checks.bad(2, LAKE + "gate a leaks ^0 boards 1 width 1;");
        Checks.bad(2, LAKE + "gate a leaks ^100 boards 1 width 1;");
        Checks.bad(2, LAKE + "gate a steps ^0 boards 1 width 1;");
        Checks.bad(2, LAKE + "gate a steps ^10 boards 1 width 1;");
        Checks.bad(2, LAKE + "gate a frozen ^1000 to 1000 boards 1 width 1;");
        Checks.bad(2, LAKE + "gate a frozen 1 to ^1000 boards 1 width 1;");
        Checks.bad(2, LAKE + "gate a frozen 5 to ^4 boards 1 width 1;");
        Checks.bad(2, LAKE + "gate a plain boards ^21 width 1;");
        Checks.bad(2, LAKE + "gate a plain boards 1 width ^0;");
        Checks.bad(2, LAKE + "gate a plain boards 1 width ^100;");
        Checks.bad(2, VILLAGE + "thing v gate g from 5 to ^4 days 1 to 2 worth 1;");
        Checks.bad(2, VILLAGE + "thing v gate g from 5 to 5 days ^1000 to 2 worth 1;");
        Checks.bad(2, VILLAGE + "thing v gate g from 5 to 5 days 3 to ^2 worth 1;");
        Checks.bad(2, VILLAGE + "thing v gate g from 5 to 5 days 3 to ^1000 worth 1;");
        Checks.bad(2, VILLAGE + "thing v gate g from 5 to 5 days 3 to 3 worth ^0;");
        Checks.bad(2, VILLAGE + "thing v gate g from 5 to 5 days 3 to 3 worth ^100;");
        Checks.bad(2, LAKE + "chapel 1 loss ^100;");
        Checks.bad(2, LAKE + "bank 1 loss ^100;");
    }

    private static void namesThatCannotBe() {
        Checks.bad(3, GATE + "gate ^g plain boards 1 width 1;");
        Checks.bad(3, VILLAGE + "village ^v gate g;");
        Checks.bad(3, VILLAGE + "village ^g gate g;");
        Checks.bad(3, VILLAGE + "gate ^v plain boards 1 width 1;");
        Checks.bad(3, GATE + "village v gate ^h;");
        Checks.bad(3, GATE + "village v gate ^v;");
        Checks.bad(3, VILLAGE + "village w gate ^v;");
        Checks.bad(3, VILLAGE + "thing ^g gate g from 1 to 2 days 1 to 2 worth 1;");
        Checks.bad(3, VILLAGE + "thing v gate ^v from 1 to 2 days 1 to 2 worth 1;");
        Checks.bad(3, GATE + "join g ^g;");
        Checks.bad(3, GATE + "join ^h g;");
        Checks.bad(3, GATE + "join g ^h;");
        String joined = GATE + "gate h plain boards 1 width 1;gate i plain boards 1 width 1;join g h;";
        Checks.bad(3, joined + "join ^h i;");
        Checks.bad(3, joined + "join i ^g;");
        Checks.bad(3, LAKE + "village v gate ^g;gate g plain boards 1 width 1;");
    }

    private static void tooDeep() {
        Checks.good(LAKE + "rain ((((((1)))))) when ((((((1))))))=1;");
        Checks.bad(4, LAKE + "rain ((((((^(1))))))) when all;");
        Checks.good(LAKE + "rain 1 when not not not not not not all and not not not not not not all;");
        Checks.bad(4, LAKE + "rain 1 when not not not not not not ^not all;");
        Checks.good(LAKE + "rain 1 when [[[[[[all]]]]]];");
        Checks.bad(4, LAKE + "rain 1 when [[[[[[^[all]]]]]]];");
        Checks.bad(4, LAKE + "rain 1 when not [not [not [min^(1,2)=1]]];");
        Checks.good(LAKE + "rain 1 when not [not [not [1=1]]] and not [not [1=1 and not [all]]];");
        Checks.bad(4, LAKE + "rain 1 when not [not [not [^not 1=1]]];");
        Checks.bad(4, LAKE + "rain min(min(min(min(min(min(min^(1,2),3),4),5),6),7),8) when all;");
        Checks.bad(4, LAKE + "rain max(1,min(2,(max(3,(min(4,^(5)))))) when all;");
        Checks.good(LAKE + "rain (1)+(2)+(3)+(4)+(5)+(6)+(7)+(8) when not 1=2 and not 1=2 and [all] and [all]"
            + " and not 1=2 and not 1=2 and not 1=2 and not 1=2;");
    }

    private static void tooMany() {
        StringBuilder gates = new StringBuilder(LAKE);
        for (char c = 'a'; c <= 'i'; c++) {
            gates.append("gate ").append(c).append(" plain boards 1 width 1;");
        }
        Checks.good(gates.toString());
        Checks.bad(5, gates + " ^gate a");
        Checks.bad(1, gates + " ^gates");
        StringBuilder villages = new StringBuilder(GATE);
        for (char c = 'a'; c <= 'f'; c++) {
            villages.append("village ").append(c).append(" gate g;");
        }
        Checks.good(villages.toString());
        Checks.bad(5, villages + "^village 5");
        String thing = "thing v gate g from 1 to 2 days 1 to 2 worth 1;";
        Checks.good(VILLAGE + thing.repeat(16));
        Checks.bad(5, VILLAGE + thing.repeat(16) + "^" + thing);
        String rules = "rain 1 when all;air 2 when all;".repeat(4);
        Checks.good(LAKE + rules);
        Checks.bad(5, LAKE + rules + "^rain");
        Checks.bad(5, LAKE + rules + "\n^air 1 when all;");
        String sixty = LAKE + "bank 1 loss 1;".repeat(59);
        Checks.good(sixty + " \n");
        Checks.bad(5, sixty + " ^bank 1 loss 1;");
        Checks.bad(5, sixty + "^;");
        Checks.bad(5, sixty + " ^Q");
        Checks.bad(5, sixty + "^7");
    }

    private static void faultsChangeNothing() {
        NineBoards x = Checks.lake("lake spread 2 holds 9 has 8;gate g plain boards 1 width 1;village v gate g;");
        x.act(2);
        Checks.put(x, "lake spread 1 holds 5 has 5;gate h plain boards 3 width 5;gate i;");
        Checks.same("lake() with a fault", x.lake(), NineBoards.NONE);
        Checks.same("its kind", x.fault(0), 1);
        Checks.same("its place", x.fault(1), 64);
        Checks.same("another what", x.fault(2), NineBoards.NONE);
        Checks.same("another what", x.fault(-1), NineBoards.NONE);
        Checks.same("GATES stay", x.has(0), 1);
        Checks.same("DAY stays", x.has(4), 1);
        Checks.same("water stays", x.has(5), 6);
        Checks.same("the latest ACT stays", x.has(7), 2);
        Checks.same("undo stays", x.has(8), 1);
        Checks.same("the name stays", x.letter(0, 0, 0), 7);
        Checks.same("boards stay", x.gate(0, 1), 2);
        Checks.same("the tape went", x.feed(0, 0, 0, 0, 0), 20);
    }

    private static void anotherLake() {
        NineBoards x = Checks.lake(VILLAGE + "thing v gate g from 0 to 9 days 0 to 9 worth 9;rain 2 when all;");
        x.seed(8);
        x.act(2);
        Checks.put(x, "lake spread 3 holds 50 has 7;gate hh plain boards 3 width 5;village w gate hh;"
            + "thing w gate hh from 0 to 9 days 0 to 9 worth 9;");
        Checks.same("lake()", x.lake(), 4);
        Checks.same("DAY 0", x.has(4), 0);
        Checks.same("water", x.has(5), 7);
        Checks.same("LEVEL", x.has(6), 2);
        Checks.same("no ACT", x.has(7), 0);
        Checks.same("nothing to undo", x.has(8), 0);
        Checks.same("no RULES", x.has(3), 0);
        Checks.same("nothing flowed", x.stream(0), 0);
        Checks.same("nothing flowed lately", x.gate(0, 5), 0);
        Checks.same("water at first", x.all(0), 7);
        for (int k = 1; k <= 4; k++) {
            Checks.same("all(" + k + ")", x.all(k), 0);
        }
        Checks.same("no WORTH", x.village(0, 1), 0);
        Checks.same("no WORTH lately", x.village(0, 2), 0);
        Checks.same("not served", x.served(0), 0);
        Checks.same("fault(0)", x.fault(0), 0);
        Checks.same("fault(1)", x.fault(1), NineBoards.NONE);
    }

    private static void letters() {
        NineBoards x = Checks.lake(LAKE + "gate azbycx plain boards 1 width 1;gate q plain boards 1 width 1;"
            + "village mill gate q;");
        int[] six = {1, 26, 2, 25, 3, 24};
        int[] mill = {13, 9, 12, 12, 0, 0};
        for (int k = 0; k < 6; k++) {
            Checks.same("letter(0, 0, " + k + ")", x.letter(0, 0, k), six[k]);
            Checks.same("letter(0, 1, " + k + ")", x.letter(0, 1, k), k == 0 ? 17 : 0);
            Checks.same("letter(1, 0, " + k + ")", x.letter(1, 0, k), mill[k]);
        }
        int[][] none = {{0, 0, 6}, {0, 0, -1}, {0, 2, 0}, {0, -1, 0}, {1, 1, 0}, {1, -1, 0}, {2, 0, 0}, {-1, 0, 0}};
        for (int[] n : none) {
            Checks.same("letter of none", x.letter(n[0], n[1], n[2]), NineBoards.NONE);
        }
    }
}
