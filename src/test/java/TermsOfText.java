/** Terms I: the lake's text, sentence by sentence. */
final class TermsOfText {
    static final String LAKE = "lake spread 1 holds 5 has 0;";
    static final String GATE = LAKE + "gate g plain boards 1 width 1;";
    static final String VILLAGE = GATE + "village v gate g;";
    private static final String[] OWN_WORDS = {"lake", "spread", "holds", "has", "gate", "plain", "leaks", "steps",
        "frozen", "to", "boards", "width", "join", "village", "thing", "from", "days", "worth", "chapel", "loss",
        "bank", "rain", "air", "when", "or", "and", "not", "all", "day", "level", "water", "min", "max"};

    private TermsOfText() {
    }

    static void look() {
        statements();
        lakeStatement();
        gates();
        joins();
        villagesAndThings();
        chapelAndBank();
        rules();
        names();
        tests();
        sums();
        quotients();
        bounds();
        blanks();
        ownWords();
        noSuchText();
        namesAndNumbersTooLong();
        endsTooSoon();
        otherFaults();
        tooDeep();
        tooMany();
    }

    /** So many statements of a kind, with names a, b, c .. where they have one. */
    static String times(int n, String statement) {
        StringBuilder all = new StringBuilder();
        for (int k = 0; k < n; k++) {
            all.append(statement.replace('#', (char) ('a' + k)));
        }
        return all.toString();
    }

    /** As much of everything as there may be: 60 statements, and every kind full. */
    static String full() {
        return LAKE + times(9, "gate # plain boards 1 width 1;") + times(6, "village v# gate a;")
            + times(16, "thing va gate a from 0 to 0 days 0 to 0 worth 1;") + times(8, "air 0 when all;")
            + "join a b;join c d;join e f;join g h;" + times(16, "bank 0 loss 0;");
    }

    /** The last numbers that may be and the first that may not, on both sides. */
    private static void range(String ahead, int low, int high, String behind) {
        Checks.good(ahead + low + behind);
        Checks.good(ahead + high + behind);
        if (low > 0) {
            Checks.bad(2, ahead + "^" + (low - 1) + behind);
        } else {
            Checks.bad(1, ahead + "^-1" + behind);
        }
        if (high < 9999) {
            Checks.bad(2, ahead + "^" + (high + 1) + behind);
        } else {
            Checks.bad(1, ahead + "1000^0" + behind);
        }
    }

    private static void statements() {
        Document.section("Terms");
        Document.says("I. A LAKE is a text: { STATEMENT ; } (60 at most):");
        Checks.good(LAKE);
        Checks.good(LAKE + times(59, "bank 1 loss 1;"));
        Checks.good(LAKE + times(59, "bank 1 loss 1;") + " \n ");
        Checks.bad(5, LAKE + times(59, "bank 1 loss 1;") + "^bank 1 loss 1;");
        Checks.bad(1, LAKE + times(58, "bank 1 loss 1;") + "bank 1 loss 1^");
        Checks.good(full());
        Checks.good(full() + " ".repeat(1600 - full().length()));
        Checks.bad(5, full() + "^bank 0 loss 0;");
        Checks.bad(1, "^");
        Checks.bad(1, LAKE + "^;");
    }

    private static void lakeStatement() {
        Document.says("lake spread N holds N has N (1 .. 999, 1 .. 9999, 0 .. that; the first STATEMENT, and it alone);");
        range("lake spread ", 1, 999, " holds 5 has 0;");
        range("lake spread 1 holds ", 1, 9999, " has 0;");
        range("lake spread 1 holds 1 has ", 0, 1, ";");
        range("lake spread 1 holds 5 has ", 0, 5, ";");
        range("lake spread 1 holds 9998 has ", 0, 9998, ";");
        range("lake spread 999 holds 9999 has ", 0, 9999, ";");
        Checks.bad(1, "^gate g plain boards 1 width 1;" + LAKE);
        Checks.bad(1, "^bank 1 loss 1;" + LAKE);
        Checks.bad(1, LAKE + "^" + LAKE);
        Checks.bad(1, GATE + "^" + LAKE);
        Checks.bad(1, LAKE + times(58, "bank 1 loss 1;") + "^lake spread 1 holds 5 has 0;");
        NineBoards x = Checks.lake("lake spread 999 holds 9999 has 9999;");
        Checks.same("water", x.has(5), 9999);
        Checks.same("LEVEL", x.has(6), 10);
    }

    private static void gates() {
        Document.says("gate NAME KIND boards N width N (0 .. 20, 1 .. 99; 9 GATES), KIND being plain,");
        range(LAKE + "gate g plain boards ", 0, 20, " width 1;");
        range(LAKE + "gate g plain boards 0 width ", 1, 99, ";");
        Checks.good(LAKE + times(9, "gate # plain boards 20 width 99;"));
        Checks.bad(5, LAKE + times(9, "gate # plain boards 20 width 99;") + "^gate j plain boards 20 width 99;");
        NineBoards x = Checks.lake(LAKE + times(9, "gate # plain boards 20 width 99;"));
        Checks.same("9 GATES", x.has(0), 9);
        Checks.same("the last one's boards", x.gate(8, 1), 20);
        Checks.same("the last one's width", x.gate(8, 2), 99);
        Document.says("or leaks N (1 .. 99), or steps N (1 .. 9), or frozen N to N (0 .. 999, the second not below the first);");
        range(LAKE + "gate g leaks ", 1, 99, " boards 0 width 1;");
        range(LAKE + "gate g steps ", 1, 9, " boards 0 width 1;");
        range(LAKE + "gate g frozen ", 0, 999, " to 999 boards 0 width 1;");
        range(LAKE + "gate g frozen 0 to ", 0, 999, " boards 0 width 1;");
        range(LAKE + "gate g frozen 5 to ", 5, 999, " boards 0 width 1;");
        range(LAKE + "gate g frozen 999 to ", 999, 999, " boards 0 width 1;");
        Checks.bad(1, LAKE + "gate g leaks ^boards 0 width 1;");
        Checks.bad(1, LAKE + "gate g plain ^1 boards 0 width 1;");
        Checks.bad(1, LAKE + "gate g frozen 1 ^boards 0 width 1;");
        Checks.bad(1, LAKE + "gate g ^boards 0 width 1;");
    }

    private static void joins() {
        Document.says("join NAME NAME (two unlike GATES of which neither is joined);");
        String nine = LAKE + times(9, "gate # plain boards 1 width 1;");
        Checks.good(nine + "join a b;join c d;join e f;join g h;");
        Checks.good(nine + "join i a;");
        Checks.bad(3, nine + "join a ^a;");
        Checks.bad(3, nine + "join i ^i;");
        Checks.bad(3, nine + "join a b;join ^a b;");
        Checks.bad(3, nine + "join a b;join ^b a;");
        Checks.bad(3, nine + "join a b;join ^a c;");
        Checks.bad(3, nine + "join a b;join ^b c;");
        Checks.bad(3, nine + "join a b;join c ^a;");
        Checks.bad(3, nine + "join a b;join c ^b;");
        Checks.bad(3, nine + "join a b;join c d;join e f;join g h;join i ^h;");
        NineBoards x = Checks.lake(nine + "join i a;");
        Checks.same("the last to the first", x.gate(8, 3), 0);
        Checks.same("the first to the last", x.gate(0, 3), 8);
        Checks.same("no other", x.gate(1, 3), NineBoards.NONE);
    }

    private static void villagesAndThings() {
        Document.says("village NAME gate NAME (6 VILLAGES);");
        Checks.good(GATE + times(6, "village # gate g;"));
        Checks.bad(5, LAKE + "gate z plain boards 1 width 1;" + times(6, "village # gate z;") + "^village g gate z;");
        Document.says("thing NAME gate NAME from N to N days N to N worth N (a VILLAGE whose it is, a GATE, flows 0 .. 9999, DAYS 0 .. 999, each second not below its first, 1 .. 99; 16 THINGS);");
        String thing = VILLAGE + "thing v gate g from ";
        Checks.bad(3, VILLAGE + "thing ^g gate g from 0 to 0 days 0 to 0 worth 1;");
        Checks.bad(3, VILLAGE + "thing ^w gate g from 0 to 0 days 0 to 0 worth 1;");
        Checks.bad(3, VILLAGE + "thing v gate ^v from 0 to 0 days 0 to 0 worth 1;");
        Checks.bad(3, VILLAGE + "thing v gate ^h from 0 to 0 days 0 to 0 worth 1;");
        range(thing, 0, 9999, " to 9999 days 0 to 0 worth 1;");
        range(thing + "0 to ", 0, 9999, " days 0 to 0 worth 1;");
        range(thing + "7 to ", 7, 9999, " days 0 to 0 worth 1;");
        range(thing + "9999 to ", 9999, 9999, " days 0 to 0 worth 1;");
        range(thing + "0 to 0 days ", 0, 999, " to 999 worth 1;");
        range(thing + "0 to 0 days 0 to ", 0, 999, " worth 1;");
        range(thing + "0 to 0 days 7 to ", 7, 999, " worth 1;");
        range(thing + "0 to 0 days 999 to ", 999, 999, " worth 1;");
        range(thing + "0 to 0 days 0 to 0 worth ", 1, 99, ";");
        String full = LAKE + times(9, "gate # plain boards 1 width 1;") + times(6, "village v# gate a;");
        Checks.good(full + "thing vf gate i from 0 to 0 days 0 to 0 worth 1;");
        Checks.bad(3, full + "thing ^vg gate i from 0 to 0 days 0 to 0 worth 1;");
        Checks.bad(3, full + "thing vf gate ^j from 0 to 0 days 0 to 0 worth 1;");
        String sixteen = VILLAGE + times(16, "thing v gate g from 0 to 0 days 0 to 0 worth 1;");
        Checks.good(sixteen);
        Checks.bad(5, sixteen + "^thing v gate g from 0 to 0 days 0 to 0 worth 1;");
    }

    /** What a day of rest gives the village of a lake that is not served at all. */
    private static int losses(String statements, int water) {
        NineBoards x = Checks.lake("lake spread 1 holds 9999 has " + water + ";gate g plain boards 20 width 1;"
            + "village v gate g;" + statements);
        x.act(0);
        return x.village(0, 2);
    }

    private static void chapelAndBank() {
        Document.says("chapel N loss N, bank N loss N (a LEVEL 0 .. 9999, 0 .. 99; the last one counts; without: 0 and 0, 9999 and 0);");
        range(LAKE + "chapel ", 0, 9999, " loss 0;");
        range(LAKE + "chapel 0 loss ", 0, 99, ";");
        range(LAKE + "bank ", 0, 9999, " loss 0;");
        range(LAKE + "bank 0 loss ", 0, 99, ";");
        Checks.same("the last chapel is higher", losses("chapel 3 loss 5;chapel 6 loss 7;", 5), -7);
        Checks.same("the last chapel is lower", losses("chapel 6 loss 7;chapel 3 loss 5;", 5), 0);
        Checks.same("the last chapel loses nothing", losses("chapel 6 loss 7;chapel 6 loss 0;", 5), 0);
        Checks.same("the last bank is lower", losses("bank 6 loss 5;bank 3 loss 7;", 5), -7);
        Checks.same("the last bank is higher", losses("bank 3 loss 7;bank 6 loss 5;", 5), 0);
        Checks.same("a chapel between banks", losses("bank 3 loss 7;chapel 6 loss 2;bank 4 loss 5;", 5), -7);
        Checks.same("without, no water", losses("", 0), 0);
        Checks.same("without, more than 9999", losses("rain 9999 when all;", 9999), 0);
        NineBoards x = Checks.lake(VILLAGE + "chapel 9999 loss 9;bank 0 loss 9;rain 5 when all;");
        x.act(0);
        Checks.same("with both", x.village(0, 2), -18);
        Checks.put(x, VILLAGE + "rain 5 when all;");
        Checks.same("another lake", x.lake(), 4);
        x.act(0);
        Checks.same("without them again", x.village(0, 2), 0);
    }

    private static void rules() {
        Document.says("rain SUM when TEST, air SUM when TEST (8 RULES of both together).");
        Checks.good(LAKE + times(8, "rain 1 when all;"));
        Checks.good(LAKE + times(8, "air 1 when all;"));
        Checks.good(LAKE + times(4, "air 1 when all;rain 1 when all;"));
        Checks.bad(5, LAKE + times(8, "rain 1 when all;") + "^rain 1 when all;");
        Checks.bad(5, LAKE + times(8, "rain 1 when all;") + "^air 1 when all;");
        Checks.bad(5, LAKE + times(8, "air 1 when all;") + "^rain 1 when all;");
        Checks.bad(5, LAKE + times(4, "air 1 when all;rain 1 when all;") + "^air 1 when all;");
        NineBoards x = Checks.lake(LAKE + times(7, "rain 1 when not all;") + "rain 8 when all;");
        Checks.same("the 8th counts", x.weather(0, 0, false), 8);
        Checks.same("none of air", x.weather(0, 5, true), 0);
    }

    private static void names() {
        Document.says("  NAMES: 1 to 6 letters, no OWN WORD, unlike ones (GATES, VILLAGES), told ahead of where they are asked.");
        Checks.good(LAKE + "gate a plain boards 1 width 1;");
        Checks.good(LAKE + "gate abcxyz plain boards 1 width 1;");
        Checks.bad(1, LAKE + "gate abcxyz^a plain boards 1 width 1;");
        Checks.bad(1, LAKE + "gate ^plain boards 1 width 1;");
        Checks.bad(1, LAKE + "gate ^; plain boards 1 width 1;");
        Checks.good(GATE + "village abcxyz gate g;thing abcxyz gate g from 0 to 0 days 0 to 0 worth 1;");
        Checks.bad(1, GATE + "village abcxyz^a gate g;");
        Checks.bad(1, GATE + "village ^gate g;");
        // The letters are those of OWN WORDS, a to z; what stands just beside them is none.
        for (char c : new char[] {'A', 'Z', '`', '{', '@', '[', '_', '-', '\'', (char) 0, (char) 128, (char) 225,
            (char) 255}) {
            Checks.bad(1, LAKE + "gate ^" + c + " plain boards 1 width 1;");
            Checks.bad(1, LAKE + "gate a^" + c + " plain boards 1 width 1;");
        }
        Checks.good(GATE + "gate gg plain boards 1 width 1;gate ggggg plain boards 1 width 1;gate gggggg plain boards 1"
            + " width 1;gate gggggh plain boards 1 width 1;gate h plain boards 1 width 1;");
        Checks.bad(3, GATE + "gate ^g plain boards 1 width 1;");
        Checks.bad(3, LAKE + "gate gggggg plain boards 1 width 1;gate ^gggggg plain boards 1 width 1;");
        Checks.bad(3, VILLAGE + "village ^v gate g;");
        Checks.bad(3, VILLAGE + "village ^g gate g;");
        Checks.bad(3, VILLAGE + "gate ^v plain boards 1 width 1;");
        Checks.bad(3, LAKE + "village v gate ^g;gate g plain boards 1 width 1;");
        Checks.bad(3, GATE + "join g ^h;gate h plain boards 1 width 1;");
        Checks.bad(3, GATE + "thing ^v gate g from 0 to 0 days 0 to 0 worth 1;village v gate g;");
        Checks.bad(3, VILLAGE + "thing v gate ^h from 0 to 0 days 0 to 0 worth 1;gate h plain boards 1 width 1;");
    }

    private static void test(String test, boolean want) {
        NineBoards x = Checks.lake("lake spread 3 holds 9 has 9;rain 1 when " + test + ";");
        Checks.same("when " + test, x.weather(7, 100, false), want ? 1 : 0);
    }

    private static void tests() {
        Document.says("TEST: BOTH { or BOTH }. BOTH: FACT { and FACT }. FACT: not FACT; [ TEST ] ; all; SUM SIGN SUM, SIGN < or > or = .");
        test("1=2 or 1=3 or 1=1", true);
        test("1=2 or 1=3 or 1=4", false);
        test("1=1 and 2=2 and 3=3", true);
        test("1=1 and 2=2 and 3=4", false);
        test("1=1 or 1=1 and 1=2", true);
        test("[1=1 or 1=1] and 1=2", false);
        test("1=2 and 1=1 or 1=1", true);
        test("1=2 and [1=1 or 1=1]", false);
        test("not 1=1 or 1=1", true);
        test("not [1=1 or 1=1]", false);
        test("not 1=2 and 1=2", false);
        test("not [1=2 and 1=2]", true);
        test("not not all", true);
        test("not not not all", false);
        test("all", true);
        test("6<7", true);
        test("7<7", false);
        test("8<7", false);
        test("6>7", false);
        test("7>7", false);
        test("8>7", true);
        test("6=7", false);
        test("7=7", true);
        test("8=7", false);
        test("1<2 and 2>1 and 1=1 and all", true);
        test("all and 2>1 and 1<2 and 1=1", true);
        test("not 1<2", false);
        test("not 2>1", false);
        test("not 1=1", false);
        test("not 2<1 and not 1>2 and not 1=2", true);
        test("1=2" + " or 1=2".repeat(150) + " or all", true);
        test("1=1" + " and 1=1".repeat(150) + " and not all", false);
        Checks.bad(1, LAKE + "rain 1 when ^;");
        Checks.bad(1, LAKE + "rain 1 when [^];");
        Checks.bad(1, LAKE + "rain 1 when all or ^;");
        Checks.bad(1, LAKE + "rain 1 when all and ^;");
        Checks.bad(1, LAKE + "rain 1 when ^or all;");
        Checks.bad(1, LAKE + "rain 1 when ^and all;");
        Checks.bad(1, LAKE + "rain 1 when not ^;");
        Checks.bad(1, LAKE + "rain 1 when all ^not all;");
        Checks.bad(1, LAKE + "rain 1 when [all^;");
        Checks.bad(1, LAKE + "rain 1 when all^];");
        Checks.bad(1, LAKE + "rain 1 when 1^;");
        Checks.bad(1, LAKE + "rain 1 when 1=^;");
        Checks.bad(1, LAKE + "rain 1 when ^=1;");
        Checks.bad(1, LAKE + "rain 1 when 1=1^=1;");
        Checks.bad(1, LAKE + "rain 1 when 1<^>1;");
        Checks.bad(1, LAKE + "rain 1 when all^=1;");
        Checks.bad(1, LAKE + "rain 1 when (^all);");
        Checks.bad(1, LAKE + "rain 1 when (1^<2);");
    }

    private static void rain(String sum, int want) {
        NineBoards x = Checks.lake("lake spread 3 holds 9 has 9;rain " + sum + " when all;");
        Checks.same("rain " + sum, x.weather(7, 100, false), want);
    }

    private static void sums() {
        Document.says("SUM: PRODUCT { + or - PRODUCT }. PRODUCT: PART { * or / PART }. PART: N (1 to 4 digits); day; level; water; ( SUM ) ; min ( SUM , SUM ) ; max ( SUM , SUM ) .");
        rain("0", 0);
        rain("9", 9);
        rain("0000", 0);
        rain("0009", 9);
        rain("9999", 9999);
        Checks.bad(1, LAKE + "rain 0000^9 when all;");
        Checks.bad(1, LAKE + "rain 9999^9 when all;");
        rain("day", 7);
        rain("level", 33);
        rain("water", 100);
        rain("(day)", 7);
        rain("min(day,level)", 7);
        rain("max(day,level)", 33);
        rain("min(7,7)+max(7,7)", 14);
        rain("min(day+level,water-1)", 40);
        rain("2+3*4", 14);
        rain("(2+3)*4", 20);
        rain("20-6/2", 17);
        rain("1" + "+1".repeat(300), 301);
        rain("1" + "*1".repeat(300), 1);
        Checks.bad(1, LAKE + "rain ^when all;");
        Checks.bad(1, LAKE + "rain ^+1 when all;");
        Checks.bad(1, LAKE + "rain 1+ ^when all;");
        Checks.bad(1, LAKE + "rain 1*^/1 when all;");
        Checks.bad(1, LAKE + "rain (^) when all;");
        Checks.bad(1, LAKE + "rain (1^,1) when all;");
        Checks.bad(1, LAKE + "rain (1 ^when all;");
        Checks.bad(1, LAKE + "rain min^+(1,1) when all;");
        Checks.bad(1, LAKE + "rain min(1^) when all;");
        Checks.bad(1, LAKE + "rain max(1,1^,1) when all;");
        Checks.bad(1, LAKE + "rain max(^,1) when all;");
        Checks.bad(1, LAKE + "rain 1 ^1 when all;");
        Checks.bad(1, GATE + "rain ^g when all;");
    }

    private static void quotients() {
        Document.says("All from the left on; / gives the greatest whole number not above, by 0 it gives 0;");
        rain("10-3-2", 5);
        rain("10-3+2", 9);
        rain("100/10/2", 5);
        rain("2*7/4", 3);
        rain("7/4*2", 2);
        rain("6/3", 2);
        rain("7/3", 2);
        rain("8/3", 2);
        rain("9/3", 3);
        rain("0/3", 0);
        rain("10+(0-6)/3", 8);
        rain("10+(0-7)/3", 7);
        rain("10+(0-8)/3", 7);
        rain("10+(0-9)/3", 7);
        rain("10+7/(0-3)", 7);
        rain("10+6/(0-3)", 8);
        rain("10+(0-7)/(0-3)", 12);
        rain("10+1/(0-9999)", 9);
        rain("5/0", 0);
        rain("0/0", 0);
        rain("10+(0-5)/0", 10);
        rain("10+5/(3-3)", 10);
        rain("7/0+2", 2);
        rain("7/0*2+3", 3);
    }

    private static void bounds() {
        Document.says("each sum, difference, product above 10 to the 6 is that, below -10 to the 6 likewise.");
        String most = "1000*1000";
        String least = "(0-1000)*1000";
        test(most + "-1=999*1001", true);
        test(most + "=999*1001", false);
        test(most + "+1=" + most, true);
        test("999*1001+1=" + most, true);
        test("999*1001+2=" + most, true);
        test(most + "+1-1=" + most, false);
        test(most + "+1-1=999*1001", true);
        test("1000*1001=" + most, true);
        test("9999*9999=" + most, true);
        test(most + "-(0-1)=" + most, true);
        test("0-" + most + "=" + least, true);
        test(least + "+1=(0-999)*1001", true);
        test(least + "-1=" + least, true);
        test(least + "-1+1=" + least, false);
        test("(0-999)*1001-1=" + least, true);
        test("(0-999)*1001-2=" + least, true);
        test(least + "+(0-1)=" + least, true);
        test("(0-1001)*1000=" + least, true);
        test("9999*(0-9999)=" + least, true);
        test("(" + least + ")*(" + least + ")=" + most, true);
        test("(" + most + ")*(" + most + ")=" + most, true);
        test("(" + most + ")*(" + least + ")=" + least, true);
        test("(" + least + ")/(0-1)=" + most, true);
        test("(" + most + ")/(0-1)=" + least, true);
    }

    private static void blanks() {
        Document.says("Blanks (10, 32) are where one likes (words and numbers side by side need one).");
        Checks.good("\n \nlake  spread\n\n1 \n holds 5\nhas 0 ; \n");
        Checks.good(LAKE + " rain ( 1 + 2 ) * 3 when [ all ] and not 1 = 1 or min ( 1 , 2 ) < 3 ;");
        Checks.good(LAKE + "rain(1+2)*(3)when[all]and not(1)=(1)or min(1,2)<max(day,3);");
        for (char c : new char[] {0, 9, 11, 12, 13, 31, 33, 160}) {
            Checks.bad(1, "lake^" + c + "spread 1 holds 5 has 0;");
            Checks.bad(1, "^" + c + LAKE);
            Checks.bad(1, LAKE + "^" + c);
            Checks.bad(1, LAKE + "rain 1^" + c + " when all;");
        }
        Checks.bad(1, "^lakespread 1 holds 5 has 0;");
        Checks.bad(1, "lake spread^1 holds 5 has 0;");
        Checks.bad(1, "lake spread 1^holds 5 has 0;");
        Checks.bad(1, LAKE + "^gateg plain boards 1 width 1;");
        Checks.bad(1, LAKE + "gate g leaks^5 boards 1 width 1;");
        Checks.bad(1, LAKE + "gate g^1 plain boards 1 width 1;");
        Checks.bad(1, LAKE + "rain 1 when ^notall;");
        Checks.bad(1, LAKE + "rain 1 when not^1=1;");
        Checks.bad(1, LAKE + "rain 1 when 1=1^or all;");
        Checks.bad(1, LAKE + "rain 1 when all^1;");
    }

    private static void ownWords() {
        Document.says("  OWN WORDS: lake, spread, holds, has, gate, plain, leaks, steps, frozen, to, boards, width, join, village, thing, from, days, worth, chapel, loss, bank, rain, air, when, or, and, not, all, day, level, water, min, max.");
        for (String word : OWN_WORDS) {
            Checks.bad(1, LAKE + "gate ^" + word + " plain boards 1 width 1;");
            Checks.bad(1, GATE + "village ^" + word + " gate g;");
            Checks.bad(1, GATE + "village v gate ^" + word + ";");
            Checks.bad(1, GATE + "join ^" + word + " g;");
            Checks.bad(1, GATE + "join g ^" + word + ";");
            Checks.bad(1, VILLAGE + "thing ^" + word + " gate g from 0 to 0 days 0 to 0 worth 1;");
            Checks.bad(1, VILLAGE + "thing v gate ^" + word + " from 0 to 0 days 0 to 0 worth 1;");
            String shorter = word.substring(0, word.length() - 1);
            String other = shorter + "q";
            if (shorter.length() <= 6 && !java.util.Arrays.asList(OWN_WORDS).contains(shorter)) {
                Checks.good(LAKE + "gate " + shorter + " plain boards 1 width 1;");
            }
            if (other.length() <= 6) {
                Checks.good(LAKE + "gate " + other + " plain boards 1 width 1;");
            }
            if (word.length() < 6) {
                Checks.good(LAKE + "gate " + word + "q plain boards 1 width 1;");
                Checks.good(LAKE + "gate q" + word + " plain boards 1 width 1;");
            }
        }
    }

    private static void noSuchText() {
        Document.says("FAULTS, the first along the text: 1 the first byte with which no such text goes on (words and numbers whole, at their first byte;");
        // Of two faults that which is first along the text.
        Checks.bad(2, "lake spread ^0 holds 0 has 0;");
        Checks.bad(1, "lake spread 1 ^hold 0 has 0;");
        Checks.bad(2, GATE + "gate h plain boards ^21 width 0;gate h plain boards 1 width 1;");
        Checks.bad(3, GATE + "gate ^g plain boards 21 width 1;");
        Checks.bad(1, GATE + "gate ^5 plain boards 21 width 1;");
        Checks.bad(1, "lake ^spreads 1 holds 5 has 0;");
        Checks.bad(1, "lake ^sprea 1 holds 5 has 0;");
        Checks.bad(1, "lake ^1 holds 5 has 0;");
        Checks.bad(1, "lake ^12345 holds 5 has 0;");
        Checks.bad(1, "lake spread ^abcdefgh holds 5 has 0;");
        Checks.bad(1, LAKE + "^gates g plain boards 1 width 1;");
        Checks.bad(1, LAKE + "^abcdefgh;");
        Checks.bad(1, LAKE + "^99999;");
        Checks.bad(1, LAKE + "gate g ^plainer boards 1 width 1;");
        Checks.bad(1, LAKE + "gate g ^h plain boards 1 width 1;");
        Checks.bad(1, LAKE + "rain ^dayx when all;");
        Checks.bad(1, LAKE + "rain 1 when ^alll;");
        Checks.bad(1, LAKE + "rain 1 ^whenever all;");
        Checks.bad(1, "^Lake spread 1 holds 5 has 0;");
        Checks.bad(1, "^lakE spread 1 holds 5 has 0;");
        Checks.bad(1, LAKE + "^,");
        Checks.bad(1, LAKE + "^\u00ff");
    }

    private static void namesAndNumbersTooLong() {
        Document.says("where a NAME is asked, an OWN WORD so, a 7th letter at itself;");
        Checks.bad(1, LAKE + "gate ^village plain boards 1 width 1;");
        Checks.bad(1, LAKE + "gate villag^x plain boards 1 width 1;");
        Checks.bad(1, LAKE + "gate villag^es plain boards 1 width 1;");
        Checks.bad(1, LAKE + "gate abcdef^ghijklmnopqrstuvwxyz plain boards 1 width 1;");
        Checks.bad(1, GATE + "village spread^s gate g;");
        Checks.bad(1, GATE + "village v gate gggggg^g;");
        Checks.bad(1, GATE + "join gggggg^g g;");
        Checks.bad(1, GATE + "join g gggggg^g;");
        Checks.bad(1, VILLAGE + "thing vvvvvv^v gate g from 0 to 0 days 0 to 0 worth 1;");
        Document.says("where a number is asked, a 5th digit at itself;");
        Checks.bad(1, "lake spread 0000^1 holds 5 has 0;");
        Checks.bad(1, "lake spread 1234^5 holds 5 has 0;");
        Checks.bad(1, "lake spread 1 holds 0000^5 has 0;");
        Checks.bad(1, "lake spread 1 holds 5 has 0000^0;");
        Checks.bad(1, "lake spread 1 holds 5 has 0000^0000000000;");
        Checks.bad(1, LAKE + "gate g plain boards 0000^1 width 1;");
        Checks.bad(1, LAKE + "rain 1234^5 when all;");
        Checks.bad(1, LAKE + "rain 1 when 1=1234^5;");
        Checks.good("lake spread 0001 holds 0005 has 0000;");
    }

    /** A text of single letters and digits but for its OWN WORDS, so that each cut tells where it ends too soon. */
    private static void endsTooSoon() {
        Document.says("at the text's length, if it ends too soon);");
        String text = "lake spread 1 holds 5 has 0 ; gate g plain boards 1 width 1;"
            + "gate h frozen 1 to 2 boards 1 width 1;"
            + "gate i leaks 1 boards 1 width 1;gate j steps 1 boards 1 width 1;join g h;village v gate g;"
            + "thing v gate g from 0 to 0 days 0 to 0 worth 1;chapel 1 loss 1;bank 1 loss 1;"
            + "rain min(1,max(day,(level+water)))*2 when not[all or 1<2]and 3>4 or 5=6;air 1 when all;";
        Checks.good(text);
        for (int n = 0; n < text.length(); n++) {
            String cut = text.substring(0, n);
            boolean inWord = n > 0 && Character.isLetter(text.charAt(n - 1)) && Character.isLetter(text.charAt(n));
            int word = n;
            while (inWord && word > 0 && Character.isLetter(text.charAt(word - 1))) {
                word--;
            }
            if (cut.trim().endsWith(";")) {
                Checks.good(cut);
            } else {
                Checks.bad(1, cut.substring(0, word) + "^" + cut.substring(word));
            }
        }
        Checks.bad(1, "   \n^");
        Checks.bad(1, LAKE + "gate g \n^");
    }

    private static void otherFaults() {
        Document.says("2 a number that can't be, at it;");
        Checks.bad(2, "lake spread ^0000 holds 5 has 0;");
        Checks.bad(2, "lake spread\n^1000\nholds 5 has 0;");
        Checks.bad(2, "lake spread 1 holds 5 has ^6 0;");
        Checks.bad(2, "lake spread ^1000holds 5 has 0;");
        Checks.bad(2, LAKE + "gate g frozen 7 to ^6 boards 1 width 1;");
        Document.says("3 a NAME to be given that is there already, one that is none of what is asked, of join a GATE that is joined already or the first one again, at it;");
        Checks.bad(3, GATE + "gate ^g round;");
        Checks.bad(3, VILLAGE + "village ^v;");
        Checks.bad(3, VILLAGE + "village w gate ^v 1;");
        Checks.bad(3, VILLAGE + "thing ^g;");
        Checks.bad(3, VILLAGE + "join ^v g;");
        Checks.bad(3, VILLAGE + "join g ^v;");
        Checks.bad(3, GATE + "join g ^g");
        Checks.bad(3, GATE + "gate h plain boards 1 width 1;join g h;join ^g");
    }

    private static void tooDeep() {
        Document.says("4 the 7th ( [ not that is open at once (not until its FACT ends), at it;");
        Checks.good(LAKE + "rain ((((((1)))))) when all;");
        Checks.bad(4, LAKE + "rain ((((((^(1))))))) when all;");
        Checks.good(LAKE + "rain min(min(min(min(min(min(1,2),2),2),2),2),2) when all;");
        Checks.bad(4, LAKE + "rain min(min(min(min(min(min(min^(1,2),2),2),2),2),2),2) when all;");
        Checks.bad(4, LAKE + "rain max(1,max(1,max(1,max(1,max(1,max(1,max ^(1,1))))))) when all;");
        Checks.good(LAKE + "rain 1 when [[[[[[all]]]]]];");
        Checks.bad(4, LAKE + "rain 1 when [[[[[[^[all]]]]]]];");
        Checks.good(LAKE + "rain 1 when not not not not not not all;");
        Checks.bad(4, LAKE + "rain 1 when not not not not not not ^not all;");
        Checks.good(LAKE + "rain 1 when not[not[(min(1,2))=1]];");
        Checks.bad(4, LAKE + "rain 1 when not[not[((min^(1,2)))=1]];");
        Checks.bad(4, LAKE + "rain 1 when not[not[(min(1,^(2)))=1]];");
        Checks.bad(4, LAKE + "rain 1 when not not not not not not ^(1)=1;");
        Checks.bad(4, LAKE + "rain 1 when not not not not not not ^[all];");
        Checks.bad(4, LAKE + "rain 1 when not not not not not not 1=^(1);");
        Checks.bad(4, LAKE + "rain 1 when [[[[[[1=min^(1,1)]]]]]];");
        Checks.bad(4, LAKE + "rain 1 when [[[[[[^not all]]]]]];");
        // What has been closed is open no more, a not by the end of its FACT.
        Checks.good(LAKE + "rain " + "(1)+".repeat(7) + "((((((1)))))) when all;");
        Checks.good(LAKE + "rain 1 when " + "[all]and ".repeat(7) + "[[[[[[all]]]]]];");
        Checks.good(LAKE + "rain 1 when " + "not all and ".repeat(7) + "not not not not not not all;");
        Checks.good(LAKE + "rain 1 when " + "not 1=1 or ".repeat(7) + "((((((1))))))=((((((1))))));");
        Checks.good(LAKE + "rain 1 when not not not not not not 1=1 and not not not not not not 1=1;");
        Checks.good(LAKE + "rain ((((((1)))))) when [[[[[[1=1]]]]]];air ((((((1)))))) when all;");
        Checks.bad(4, LAKE + "rain 1 when [not all and not not not not not ^not all];");
        Checks.good(LAKE + "rain 1 when [not all and not not not not not all];");
        // None that could not stand there at all is a 7th one.
        Checks.bad(1, LAKE + "rain ((((((1^( when all;");
        Checks.bad(1, LAKE + "rain ((((((^[ when all;");
        Checks.bad(1, LAKE + "rain ((((((^not when all;");
    }

    private static void tooMany() {
        Document.says("5 one too many of a kind, a 61st STATEMENT (whatever stands there), at its first byte.");
        String gates = LAKE + times(9, "gate # plain boards 1 width 1;");
        Checks.bad(5, gates + " \n^gate");
        Checks.bad(5, gates + "^gate a plain boards 99 width 0;");
        Checks.bad(1, gates + "^gatej plain boards 1 width 1;");
        String villages = LAKE + "gate z plain boards 1 width 1;" + times(6, "village # gate z;");
        Checks.bad(5, villages + " ^village 5");
        Checks.bad(1, villages + " ^villages 5");
        String things = VILLAGE + times(16, "thing v gate g from 0 to 0 days 0 to 0 worth 1;");
        Checks.bad(5, things + " ^thing w");
        String rules = LAKE + times(4, "rain 1 when all;air 1 when all;");
        Checks.bad(5, rules + " ^rain");
        Checks.bad(5, rules + " ^air (((((((");
        Checks.bad(1, rules + " ^airs 1");
        for (String other : new String[] {"bank 1 loss 1;", "lake", ";", "Q", "7", "12345", "abcdefgh", "\t", "\u0000",
            "\u00ff", "("}) {
            Checks.bad(5, LAKE + times(59, "bank 1 loss 1;") + " \n^" + other);
        }
        Checks.good(LAKE + times(59, "bank 1 loss 1;") + "\n");
        // A kind may be full while another goes on.
        Checks.good(gates + "village v gate i;join a i;chapel 1 loss 1;rain 1 when all;");
    }
}
