/** Promises 16 to 22: weather, and what would be. */
public final class WonderTest {
    private static final int NONE = NineBoards.NONE;

    private WonderTest() {
    }

    public static void main(String[] args) {
        sums();
        tests();
        rules();
        weatherAsked();
        would();
        need();
        both();
        until();
        rows();
        today();
        lastDay();
        Checks.finish("WonderTest");
    }

    private static void rain(String sum, int want) {
        NineBoards x = Checks.lake("lake spread 3 holds 9 has 9;rain " + sum + " when all;");
        Checks.same("rain " + sum, x.weather(7, 100, false), want);
    }

    private static void sums() {
        rain("0", 0);
        rain("0042", 42);
        rain("day", 7);
        rain("level", 33);
        rain("water", 100);
        rain("2+3*4", 14);
        rain("(2+3)*4", 20);
        rain("10-3-2", 5);
        rain("100/10/2", 5);
        rain("7/2", 3);
        rain("10+(0-7)/2", 6);
        rain("10+7/(0-2)", 6);
        rain("10+(0-7)/(0-2)", 13);
        rain("3+5/0", 3);
        rain("3*5/0", 0);
        rain("min(4,9)+max(2,3)", 7);
        rain("max(0-5,0-6)+7", 2);
        rain("9999*9999/1000", 1000);
        rain("(9999*100+9999)/1000", 1000);
        rain("(0-9999*100-9999)/1000+1003", 3);
        rain("9999*(0-9999)/1000+1003", 3);
        rain("9999*9999-9999*100", 100);
        rain("9999+1", 9999);
        rain("9999*9999*9999", 9999);
        rain("5-6", 0);
    }

    private static void test(String test, boolean want) {
        NineBoards x = Checks.lake("lake spread 3 holds 9 has 9;rain 1 when " + test + ";");
        Checks.same("when " + test, x.weather(7, 100, false), want ? 1 : 0);
    }

    private static void tests() {
        test("all", true);
        test("not all", false);
        test("not not all", true);
        test("1<2", true);
        test("2<2", false);
        test("2>1", true);
        test("2>2", false);
        test("2=2", true);
        test("2=3", false);
        test("day=7 and level=33 and water=100", true);
        test("not 1=1 or 1=1", true);
        test("not [1=1 or 1=1]", false);
        test("1=1 or 1=1 and 1=2", true);
        test("[1=1 or 1=1] and 1=2", false);
        test("1=2 and 1=2 or 1=1", true);
        test("1=2 and [1=2 or 1=1]", false);
        test("not 1=2 and 1=2", false);
        test("not [1=2 and 1=2]", true);
        test("(1+1)*2=min(4,5)", true);
        test("0-7/2=0-3", true);
        test("(0-7)/2=0-4", true);
    }

    private static void rules() {
        NineBoards x = Checks.lake("lake spread 1 holds 9 has 9;air 5 when day=1;rain 6 when day=2;"
            + "rain 7 when day=1;rain 8 when day<3;air 9 when all;");
        int[] rain = {8, 7, 6, 0};
        int[] air = {9, 5, 9, 9};
        for (int day = 0; day < 4; day++) {
            Checks.same("rain on DAY " + day, x.weather(day, 50, false), rain[day]);
            Checks.same("air on DAY " + day, x.weather(day, 50, true), air[day]);
        }
    }

    private static void weatherAsked() {
        NineBoards x = Checks.lake("lake spread 7 holds 9 has 9;rain 5000+day when all;air 5000+level when all;");
        Checks.same("rain beyond what is held", x.weather(998, 9999, false), 5998);
        Checks.same("air", x.weather(0, 9999, true), 6428);
        Checks.same("air takes what there is", x.weather(0, 20, true), 20);
        Checks.same("air of none", x.weather(0, 0, true), 0);
        int[][] none = {{-1, 5}, {999, 5}, {0, -1}, {0, 10000}, {Integer.MIN_VALUE, 0}, {0, Integer.MAX_VALUE}};
        for (int[] n : none) {
            Checks.same("weather", x.weather(n[0], n[1], false), NONE);
            Checks.same("weather", x.weather(n[0], n[1], true), NONE);
        }
        Checks.same("nothing went by", x.has(4), 0);
    }

    private static final String THREE = "lake spread 1 holds 99 has 12;gate a plain boards 4 width 1;"
        + "gate b leaks 2 boards 3 width 1;gate c plain boards 7 width 1;join a c;village v gate a;"
        + "thing v gate a from 5 to 7 days 0 to 0 worth 1;thing v gate b from 1 to 2 days 0 to 0 worth 1;"
        + "thing v gate c from 1 to 1 days 0 to 0 worth 1;thing v gate c from 0 to 0 days 0 to 0 worth 1;"
        + "thing v gate b from 9 to 10 days 0 to 9 worth 1;thing v gate b from 0 to 99 days 1 to 9 worth 1;";

    private static void would() {
        NineBoards x = Checks.lake(THREE);
        // As it is: 8, then 4 of 11, then none of 5.
        Checks.same("would(0, 4)", x.would(0, 4), 8);
        Checks.same("would(0, 0)", x.would(0, 0), 12);
        Checks.same("would(0, 20)", x.would(0, 20), 0);
        Checks.same("would(1, 0)", x.would(1, 0), 4);
        Checks.same("would(1, 20)", x.would(1, 20), 2);
        // c with 11 boards and a likewise: 1, 11, and nothing is left.
        Checks.same("would(2, 11)", x.would(2, 11), 0);
        Checks.same("would(2, 12)", x.would(2, 12), 0);
        Checks.same("boards stay", x.gate(2, 1), 7);
        Checks.same("boards stay", x.gate(0, 1), 4);
        int[][] none = {{-1, 0}, {3, 0}, {0, -1}, {0, 21}};
        for (int[] n : none) {
            Checks.same("would", x.would(n[0], n[1]), NONE);
        }
    }

    private static void need() {
        NineBoards x = Checks.lake(THREE);
        Checks.same("need(0)", x.need(0), 5);
        Checks.same("need(1)", x.need(1), 12);
        Checks.same("need(2)", x.need(2), NONE);
        Checks.same("need(3)", x.need(3), 0);
        Checks.same("need(4)", x.need(4), NONE);
        Checks.same("need(5), not its DAY", x.need(5), NONE);
        Checks.same("need(6)", x.need(6), NONE);
        Checks.same("need(-1)", x.need(-1), NONE);
        NineBoards y = Checks.lake("lake spread 1 holds 99 has 21;gate a plain boards 0 width 1;village v gate a;"
            + "thing v gate a from 1 to 1 days 0 to 9 worth 1;thing v gate a from 0 to 0 days 0 to 9 worth 1;");
        Checks.same("20 boards", y.need(0), 20);
        Checks.same("21 can't be", y.need(1), NONE);
        x.act(0);
        Checks.same("need(0), no more its DAY", x.need(0), NONE);
        Checks.same("need(5), its DAY", x.need(5), 0);
    }

    private static void both() {
        NineBoards x = Checks.lake(THREE);
        Checks.same("both(0, 1)", x.both(0, 1), 1);
        Checks.same("both(1, 0)", x.both(1, 0), 1);
        // c has as many boards as a, so that it gets 1 when a gets 1, or what a and b leave.
        Checks.same("both(0, 2)", x.both(0, 2), 0);
        Checks.same("both(2, 3)", x.both(2, 3), 0);
        Checks.same("both(0, 4)", x.both(0, 4), 0);
        Checks.same("both(3, 4)", x.both(3, 4), 1);
        Checks.same("both(4, 5), not its DAY", x.both(4, 5), 0);
        int[][] none = {{0, 0}, {-1, 0}, {0, -1}, {6, 0}, {0, 6}};
        for (int[] n : none) {
            Checks.same("both", x.both(n[0], n[1]), NONE);
        }
        NineBoards y = Checks.lake("lake spread 1 holds 99 has 40;gate a plain boards 4 width 1;"
            + "gate b plain boards 3 width 2;village v gate a;thing v gate a from 30 to 30 days 0 to 9 worth 1;"
            + "thing v gate a from 30 to 31 days 0 to 9 worth 1;thing v gate a from 31 to 31 days 0 to 9 worth 1;"
            + "thing v gate b from 10 to 10 days 0 to 9 worth 1;thing v gate b from 11 to 11 days 0 to 9 worth 1;");
        Checks.same("one GATE", y.both(0, 1), 1);
        Checks.same("one GATE, unlike boards", y.both(0, 2), 0);
        Checks.same("what is left", y.both(0, 3), 1);
        Checks.same("more than is left", y.both(0, 4), 0);
        String two = "lake spread 1 holds 99 has 62;gate a plain boards 4 width 1;gate b plain boards 3 width 1;"
            + "village v gate a;thing v gate a from 42 to 42 days 0 to 9 worth 1;"
            + "thing v gate a from 43 to 43 days 0 to 9 worth 1;thing v gate b from 20 to 20 days 0 to 9 worth 1;"
            + "thing v gate b from 19 to 19 days 0 to 9 worth 1;thing v gate b from 18 to 18 days 0 to 9 worth 1;";
        NineBoards z = Checks.lake(two);
        Checks.same("20 boards", z.both(0, 2), 1);
        Checks.same("19 boards", z.both(1, 3), 1);
        Checks.same("none for less", z.both(0, 3), 0);
        NineBoards joined = Checks.lake("lake spread 1 holds 999 has 22;gate a plain boards 4 width 1;"
            + "gate b plain boards 3 width 1;village v gate a;thing v gate a from 2 to 2 days 0 to 9 worth 1;"
            + "thing v gate b from 2 to 2 days 0 to 9 worth 1;thing v gate b from 3 to 3 days 0 to 9 worth 1;"
            + "join a b;");
        Checks.same("joined ones, 20 boards", joined.both(0, 1), 1);
        Checks.same("joined ones, unlike boards", joined.both(0, 2), 0);
    }

    private static void until() {
        NineBoards x = Checks.lake("lake spread 2 holds 99 has 20;air 2 when all;");
        Checks.same("now", x.until(11, false), 0);
        Checks.same("below 10", x.until(10, false), 1);
        Checks.same("below 1", x.until(1, false), 10);
        Checks.same("below 0", x.until(0, false), NONE);
        Checks.same("above 9", x.until(9, true), 0);
        Checks.same("above 10", x.until(10, true), NONE);
        Checks.same("far", x.until(Integer.MAX_VALUE, false), 0);
        Checks.same("far", x.until(Integer.MIN_VALUE, true), 0);
        Checks.same("nothing went by", x.has(4), 0);
        NineBoards y = Checks.lake("lake spread 1 holds 9999 has 0;rain 1 when all;");
        Checks.same("99 DAYS on", y.until(98, true), 99);
        Checks.same("100 DAYS on", y.until(99, true), NONE);
        y.rest(5);
        Checks.same("99 DAYS on", y.until(103, true), 104);
        Checks.same("100 DAYS on", y.until(104, true), NONE);
        for (int k = 0; k < 10; k++) {
            y.rest(99);
        }
        Checks.same("DAY", y.has(4), 995);
        Checks.same("DAY 999", y.until(998, true), 999);
        Checks.same("beyond", y.until(999, true), NONE);
    }

    private static void rows() {
        NineBoards x = Checks.lake("lake spread 1 holds 99 has 20;gate a plain boards 5 width 1;village v gate a;");
        for (int n = 1; n <= 12; n++) {
            Checks.same("rows(" + n + ")", x.rows(n), (2 << n) - 1);
        }
        Checks.same("rows(0)", x.rows(0), NONE);
        Checks.same("rows(13)", x.rows(13), NONE);
        x.act(1);
        Checks.same("no lift any more", x.rows(1), 2);
        Checks.same("boards stay", x.gate(0, 1), 4);
        NineBoards y = Checks.lake("lake spread 1 holds 99 has 20;gate a plain boards 0 width 1;"
            + "gate b plain boards 20 width 1;village v gate a;village w gate b;");
        // 0: then 0, 1. 2: then 0, 1.
        Checks.same("rows(2) at the edges", y.rows(2), 4);
        // v and w are at an edge, u never: 0, 2 by 0, 1 by 0, 1, 2.
        NineBoards u = Checks.lake("lake spread 1 holds 99 has 20;gate a plain boards 0 width 1;"
            + "gate b plain boards 20 width 1;gate c plain boards 5 width 1;village v gate a;village w gate b;"
            + "village u gate c;");
        // 0 0: 3; 0 1: 2; 2 0: 2; 2 1: 2.
        Checks.same("rows(3) of three", u.rows(3), 9);
        NineBoards z = Checks.lake("lake spread 1 holds 99 has 20;gate a plain boards 0 width 1;"
            + "gate b plain boards 20 width 1;village v gate a;village w gate b;join a b;");
        Checks.same("joined at both edges", z.rows(12), 1);
        for (int k = 0; k < 10; k++) {
            x.rest(99);
        }
        Checks.same("DAY", x.has(4), 991);
        Checks.same("up to 999", x.rows(8), 256);
        Checks.same("beyond 999", x.rows(9), NONE);
    }

    private static void today() {
        NineBoards x = Checks.lake("lake spread 1 holds 99 has 10;gate a plain boards 5 width 1;"
            + "gate b plain boards 9 width 1;village v gate a;village w gate b;"
            + "thing v gate a from 6 to 6 days 0 to 9 worth 3;thing v gate a from 4 to 4 days 0 to 9 worth 3;"
            + "thing w gate a from 4 to 4 days 0 to 9 worth 1;");
        Checks.same("its own WORTH, the least of like ones", x.today(0, 0), 1);
        Checks.same("that of another", x.today(1, 0), 2);
        Checks.same("the LEVEL", x.today(0, 1), 2);
        Checks.same("the LEVEL, no village asked", x.today(99, 1), 2);
        Checks.same("today(2, 0)", x.today(2, 0), NONE);
        Checks.same("today(-1, 0)", x.today(-1, 0), NONE);
        Checks.same("today(0, 2)", x.today(0, 2), NONE);
        Checks.same("today(0, -1)", x.today(0, -1), NONE);
        Checks.same("nothing went by", x.has(4), 0);
        NineBoards y = Checks.lake("lake spread 10 holds 999 has 200;gate a plain boards 18 width 10;village v gate a;"
            + "thing v gate a from 30 to 30 days 0 to 9 worth 5;thing v gate a from 40 to 40 days 0 to 9 worth 9;"
            + "rain 200-water when day<2;");
        Checks.same("lift for 5", y.today(0, 0), 1);
        y.act(1);
        Checks.same("no lift for 9 any more", y.today(0, 0), 0);
        y.act(2);
        Checks.same("set for the LEVEL no more", y.today(0, 1), 0);
    }

    private static void lastDay() {
        NineBoards x = Checks.lake("lake spread 1 holds 99 has 50;gate a plain boards 20 width 1;"
            + "gate f frozen 999 to 999 boards 0 width 1;village v gate a;"
            + "thing v gate a from 5 to 9 days 999 to 999 worth 1;rain 50-water when all;");
        for (int k = 0; k < 11; k++) {
            x.rest(99);
        }
        Checks.same("DAY", x.has(4), 999);
        Checks.same("what would flow", x.gate(0, 4), 30);
        Checks.same("frozen", x.gate(1, 4), 0);
        Checks.same("would(0, 20)", x.would(0, 20), 30);
        Checks.same("need(0)", x.need(0), NONE);
        Checks.same("until now", x.until(49, true), 999);
        Checks.same("until later", x.until(50, true), NONE);
        Checks.same("rows(1)", x.rows(1), NONE);
        Checks.same("today(0, 0)", x.today(0, 0), NONE);
        Checks.same("today(0, 1)", x.today(0, 1), NONE);
        Checks.same("weather(998)", x.weather(998, 30, false), 20);
    }
}
