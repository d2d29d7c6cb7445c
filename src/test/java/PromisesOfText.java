import java.util.List;

/** Promises 1 to 5 and 7, sentence by sentence: a new object, the tape, its text, its faults, names. */
final class PromisesOfText {
    private static final int NONE = NineBoards.NONE;
    private static final int[] FAR = {Integer.MIN_VALUE, Integer.MAX_VALUE};
    private static final String LAKE = "lake spread 1 holds 5 has 3;";

    private PromisesOfText() {
    }

    static void look() {
        newObject();
        feed();
        feedBeyond();
        end();
        lake();
        nothingOfEarlierTexts();
        lakeWithAFault();
        lakeWithoutAStatement();
        anotherLake();
        fault();
        letter();
    }

    private static void newObject() {
        Document.section("Promise 1: A new object");
        Document.says("A lake of spread 1 that holds 1, and has no water, GATES or VILLAGES.");
        NineBoards x = new NineBoards();
        for (int k = 0; k <= 8; k++) {
            Checks.same("has(" + k + ")", x.has(k), 0);
        }
        for (int k = 0; k <= 4; k++) {
            Checks.same("all(" + k + ")", x.all(k), 0);
        }
        Checks.same("no GATE", x.gate(0, 0), NONE);
        Checks.same("no VILLAGE", x.village(0, 0), NineBoards.NOTHING);
        Checks.same("no THING", x.served(0), NONE);
        Looks.tape("the making", x, 0);
        Checks.same("no rain", x.weather(0, 9999, false), 0);
        Checks.same("no air", x.weather(0, 9999, true), 0);
        Checks.put(x, Checks.image(0, 2, 0));
        Checks.holds("it does not hold 2", !x.on());
        Checks.put(x, Checks.image(0, 1, 0));
        Checks.holds("it holds 1", x.on());
        Checks.same("spread 1: LEVEL 1", x.has(6), 1);
        Checks.same("a DAY", x.act(0), 1);
        NineBoards last = new NineBoards();
        for (int k = 0; k < 510; k++) {
            last.act(0);
        }
        Checks.same("its 511th call", last.has(4), 510);
        Checks.same("its 512th call", last.act(0), 0);
    }

    private static void feed() {
        Document.section("Promise 2: feed");
        Document.says("Twenty bytes come behind those on the tape, of each number the highest first: how many there are;");
        NineBoards x = new NineBoards();
        Checks.same("feed", x.feed(0x6c616b65, 0x20737072, 0x65616420, 0x3120686f, 0x6c647320), 20);
        Checks.same("feed", x.feed(0x35206861, 0x7320333b, 0x20202020, 0x20202020, 0x20202020), 40);
        Checks.same("its text", x.lake(), 1);
        Checks.same("its water", x.has(5), 3);
        // Each byte of each number stands at its own place: FAULT 1 tells where the first one is that is no blank.
        for (int place = 0; place < 20; place++) {
            for (int b : new int[] {0, 31, 33, 127, 128, 255}) {
                int[] data = new int[20];
                java.util.Arrays.fill(data, 32);
                data[place] = b;
                NineBoards y = new NineBoards();
                y.feed(Checks.four(data, 0), Checks.four(data, 4), Checks.four(data, 8), Checks.four(data, 12),
                    Checks.four(data, 16));
                y.lake();
                Checks.same("the place of byte " + b, y.fault(1), place);
            }
        }
        // An image with bytes of more than 127: 255 water, and what stands at its end.
        NineBoards z = Checks.lake("lake spread 1 holds 999 has 0;gate a plain boards 1 width 1;");
        Checks.same("feed", z.feed(0x000000ff, 0x02140000 | Checks.image(0, 255, 2, 20)[6] << 8, 0, 0, 0), 20);
        z.end(7);
        Checks.holds("on()", z.on());
        Checks.same("water", z.has(5), 255);
        NineBoards negative = new NineBoards();
        Checks.same("numbers below 0 are bytes, too", negative.feed(-1, -1, -1, -1, -1), 20);
        Checks.same("and the least", negative.feed(FAR[0], FAR[0], FAR[0], FAR[0], FAR[0]), 40);
        negative.end(19);
        Checks.same("behind 19", negative.feed(0, 0, 0, 0, 0), 39);
    }

    private static void feedBeyond() {
        Document.says("NONE, doing nothing, if there would be more than 1600.");
        NineBoards x = new NineBoards();
        String text = TermsOfText.full();
        text = text + "\n".repeat(1580 - text.length());
        Checks.put(x, text);
        Checks.same("1600 bytes", x.feed(0x20202020, 0x20202020, 0x20202020, 0x20202020, 0x20202020), 1600);
        for (int k = 0; k < 3; k++) {
            Checks.same("1620 bytes", x.feed(-1, -1, -1, -1, -1), NONE);
        }
        Looks.tape("feed beyond 1600", x, 1600);
        Checks.same("its text is as it was", x.lake(), 60);
        NineBoards y = new NineBoards();
        for (int k = 1; k <= 80; k++) {
            Checks.same("feed", y.feed(0, 0, 0, 0, 0), 20 * k);
        }
        Checks.holds("end(1581)", y.end(1581));
        Checks.same("1601 bytes", y.feed(0, 0, 0, 0, 0), NONE);
        Looks.tape("feed beyond 1600", y, 1581);
        Checks.holds("end(1580)", y.end(1580));
        Checks.same("1600 bytes", y.feed(0, 0, 0, 0, 0), 1600);
    }

    private static void end() {
        Document.section("Promise 3: end");
        Document.says("The tape has its first n bytes alone: true;");
        NineBoards x = new NineBoards();
        Checks.holds("none of none", x.end(0));
        Checks.put(x, LAKE + "QQQQ");
        Checks.holds("all of them", x.end(32));
        Checks.holds("the first alone", x.end(28));
        Checks.same("a text", x.lake(), 1);
        Checks.put(x, "QQQQ");
        Checks.holds("none", x.end(0));
        Checks.same("what comes is the first", x.feed(0, 0, 0, 0, 0), 20);
        Checks.holds("end(1)", x.end(1));
        Checks.same("behind 1", x.feed(0, 0, 0, 0, 0), 21);
        // What stood behind the first n is read no more, be it in the midst of a word, a name or a number.
        String text = LAKE + "gate abcdef plain boards 12 width 10;village abc gate abcdef;rain 1234 when day<99;";
        for (int n = 0; n <= text.length(); n++) {
            NineBoards cut = new NineBoards();
            Checks.put(cut, text);
            cut.end(n);
            NineBoards alone = new NineBoards();
            Checks.put(alone, text.substring(0, n));
            Checks.same("the first " + n, cut.lake(), alone.lake());
            Checks.same("their FAULT", cut.fault(0), alone.fault(0));
            Checks.same("its place", cut.fault(1), alone.fault(1));
            Checks.same("water", cut.has(5), alone.has(5));
        }
        Document.says("false, doing nothing, if it has not so many, or n is below 0.");
        NineBoards y = new NineBoards();
        Checks.holds("1 of none", !y.end(1));
        Checks.holds("-1 of none", !y.end(-1));
        y.feed(0, 0, 0, 0, 0);
        Checks.holds("end(21)", !y.end(21));
        Checks.holds("end(1600)", !y.end(1600));
        Checks.holds("end(-1)", !y.end(-1));
        for (int n : FAR) {
            Checks.holds("end(far)", !y.end(n));
        }
        Looks.tape("what is refused", y, 20);
        Stays.behind("end(21)", 0, z -> z.end(21) ? 1 : 0);
        Stays.behind("end(-1)", 0, z -> z.end(-1) ? 1 : 0);
    }

    private static void lake() {
        Document.section("Promise 4: lake");
        Document.says("The tape (it goes) is THE LAKE: how many STATEMENTS;");
        NineBoards x = new NineBoards();
        Checks.put(x, LAKE);
        Checks.same("one STATEMENT", x.lake(), 1);
        Looks.tape("lake()", x, 0);
        Checks.put(x, TermsOfText.full());
        Checks.same("60 STATEMENTS", x.lake(), 60);
        Looks.tape("lake()", x, 0);
        Checks.same("9 GATES", x.has(0), 9);
        Checks.same("6 VILLAGES", x.has(1), 6);
        Checks.same("16 THINGS", x.has(2), 16);
        Checks.same("8 RULES", x.has(3), 8);
        for (int again = 0; again < 3; again++) {
            Checks.put(x, LAKE);
            Checks.same("one again", x.lake(), 1);
            for (int k = 0; k <= 3; k++) {
                Checks.same("none any more", x.has(k), 0);
            }
        }
    }

    /** Nothing of an earlier text is left, however many texts ago it was, and whether it had a FAULT. */
    private static void nothingOfEarlierTexts() {
        // More than a LEVEL of 9999 ahead of what is spilt: even there no bank of an earlier text is flooded.
        String gates = "lake spread 1 holds 9999 has 9999;gate a plain boards 4 width 1;village v gate a;"
            + "rain 9999 when all;";
        String other = "lake spread 7 holds 99 has 99;gate b frozen 0 to 999 boards 9 width 9;"
            + "gate c leaks 9 boards 9 width 9;"
            + "gate d steps 9 boards 9 width 9;join b c;village w gate b;village u gate c;"
            + "thing w gate b from 0 to 99 days 0 to 99 worth 9;"
            + "chapel 99 loss 9;bank 0 loss 9;rain 99 when all;air 99 when all;";
        NineBoards want = Checks.lake(gates);
        want.act(0);
        List<Long> due = Looks.at(want);
        for (int ago = 1; ago <= 3; ago++) {
            for (String end : new String[] {"", "Q"}) {
                NineBoards x = new NineBoards();
                Checks.put(x, other + end);
                Checks.same("the other one", x.lake(), end.isEmpty() ? 12 : NONE);
                for (int k = 1; k < ago; k++) {
                    Checks.put(x, LAKE);
                    x.lake();
                }
                Checks.put(x, gates);
                Checks.same("this one", x.lake(), 4);
                Checks.same("a DAY of it", x.act(0), 9999);
                Looks.stay("another text " + ago + " texts ago" + end, x, due);
            }
        }
        Checks.same("nobody loses", want.village(0, 1), 0);
        NineBoards same = new NineBoards();
        for (int again = 1; again <= 8; again++) {
            Checks.put(same, "lake spread 1 holds 9 has 9;rain " + again + "+1".repeat(750) + " when all;");
            Checks.same("as long a text as can be, again", same.lake(), 2);
            Checks.same("its rain", same.weather(0, 0, false), 750 + again);
        }
    }

    private static void lakeWithAFault() {
        Document.says("NONE with a FAULT (all stays;");
        String[] texts = {"lake spread 1 holds 5 has 5;gate", "lake spread 1 holds 5 has 6;",
            "lake spread 9 holds 9 has 9;join a a;",
            LAKE + "rain 1 when not not not not not not not all;", LAKE + TermsOfText.times(9, "rain 1 when all;"),
            TermsOfText.full() + ";", "", "Q"};
        int[] kinds = {1, 2, 3, 4, 5, 5, 1, 1};
        for (int k = 0; k < texts.length; k++) {
            NineBoards x = Stays.prepared();
            List<Long> ahead = Looks.at(x);
            Checks.put(x, texts[k]);
            Checks.same("lake()", x.lake(), NONE);
            Checks.same("its FAULT", x.fault(0), kinds[k]);
            Looks.stay("a FAULT", x, ahead);
            Looks.tape("a FAULT", x, 0);
            // What the text told ahead of its FAULT counts for nothing later, too.
            NineBoards same = Stays.prepared();
            Checks.same("a DAY as without", x.act(1), same.act(1));
            Checks.same("water as without", x.has(5), same.has(5));
            Checks.same("undo", x.undo() ? 1 : 0, 1);
        }
    }

    private static void lakeWithoutAStatement() {
        Document.says("one without a STATEMENT has FAULT 1 at its length).");
        for (int n : new int[] {0, 1, 20, 1599, 1600}) {
            NineBoards x = new NineBoards();
            Checks.put(x, (n % 2 == 0 ? " " : "\n").repeat(n));
            Checks.same("lake()", x.lake(), NONE);
            Checks.same("its FAULT", x.fault(0), 1);
            Checks.same("its place", x.fault(1), n);
        }
        NineBoards x = Checks.lake(LAKE);
        Checks.same("the tape went", x.lake(), NONE);
        Checks.same("at 0", x.fault(1), 0);
        Checks.same("all stays", x.has(5), 3);
    }

    private static void anotherLake() {
        Document.says("Without one it is DAY 0, nothing has flowed, rained, gone or been done;");
        NineBoards x = Stays.prepared();
        Checks.put(x, Stays.LAKE);
        Checks.same("the same lake again", x.lake(), 15);
        NineBoards fresh = Checks.lake(Stays.LAKE);
        x.image();
        fresh.image();
        Looks.stay("lake()", x, Looks.at(fresh));
        Checks.holds("nothing to undo", !x.undo());
        Checks.same("no ACT is the latest", x.village(0, 4), 7);
        NineBoards late = TermsOfDays.at(Stays.LAKE, 999, 40, 2, 0, 0, 0, 0);
        Checks.put(late, LAKE);
        Checks.same("on DAY 999, too", late.lake(), 1);
        Checks.same("DAY 0", late.has(4), 0);
        Checks.same("what was there at first", late.all(0), 3);
        Document.says("the seed stays.");
        NineBoards y = Checks.lake(LAKE);
        y.seed(77);
        Checks.put(y, Years.LAKE);
        y.lake();
        Years due = new Years(77, 0, 0, 5);
        due.same(y, 1, 1, 30, 1);
        Checks.put(y, Years.LAKE);
        y.lake();
        due.same(y, 1, 1, 30, 1);
        Checks.put(y, "Q");
        y.lake();
        due.same(y, 1, 1, 30, 1);
        NineBoards first = Checks.lake(Years.LAKE);
        new Years(1, 0, 0, 5).same(first, 1, 1, 30, 1);
    }

    private static void fault() {
        Document.section("Promise 5: fault");
        Document.says("Of the latest lake(): its FAULT (what 0; 0 without, and ahead of any), its place (1; NONE without).");
        NineBoards x = new NineBoards();
        Checks.same("ahead of any", x.fault(0), 0);
        Checks.same("ahead of any", x.fault(1), NONE);
        Checks.put(x, LAKE + "gate g plain boards 21 width 1;");
        x.lake();
        Checks.same("with one", x.fault(0), 2);
        Checks.same("its place", x.fault(1), 48);
        Checks.put(x, "QQQQ");
        Checks.same("it stays until the next lake()", x.fault(0), 2);
        x.lake();
        Checks.same("another", x.fault(0), 1);
        Checks.same("at 0", x.fault(1), 0);
        Checks.put(x, LAKE);
        x.lake();
        Checks.same("without", x.fault(0), 0);
        Checks.same("without", x.fault(1), NONE);
        x.on();
        x.thief();
        Checks.same("other tapes tell none", x.fault(0), 0);
        NineBoards last = new NineBoards();
        Checks.put(last, LAKE + " ".repeat(1571) + "Q");
        last.lake();
        Checks.same("the last place of all", last.fault(1), 1599);
        Document.says("NONE for another what.");
        for (int what : new int[] {-1, 2, FAR[0], FAR[1]}) {
            Checks.same("fault(" + what + ")", last.fault(what), NONE);
            Stays.behind("fault(" + what + ")", NONE, z -> z.fault(what));
        }
    }

    private static void letter() {
        Document.section("Promise 7: letter");
        Document.says("Letter k (0 .. 5) of the NAME of a GATE (kind 0), a VILLAGE (1): 1 .. 26;");
        NineBoards x = Checks.lake(LAKE + "gate azbycx plain boards 1 width 1;gate zzzzzz plain boards 1 width 1;"
            + "gate a plain boards 1 width 1;village zaaaaz gate a;village q gate a;");
        int[][] names = {{1, 26, 2, 25, 3, 24}, {26, 26, 26, 26, 26, 26}, {1, 0, 0, 0, 0, 0}, {26, 1, 1, 1, 1, 26},
            {17, 0, 0, 0, 0, 0}};
        for (int n = 0; n < names.length; n++) {
            for (int k = 0; k < 6; k++) {
                Checks.same("letter " + k + " of " + n, x.letter(n < 3 ? 0 : 1, n < 3 ? n : n - 3, k), names[n][k]);
            }
        }
        for (int length = 1; length <= 6; length++) {
            NineBoards y = Checks.lake(LAKE + "gate " + "mnopqr".substring(0, length) + " plain boards 1 width 1;");
            Checks.same("the last letter", y.letter(0, 0, length - 1), 12 + length);
        }
        Document.says("0 behind it;");
        for (int length = 1; length <= 6; length++) {
            NineBoards y = Checks.lake(LAKE + "gate " + "zzzzzz".substring(0, length) + " plain boards 1 width 1;");
            Checks.same("behind " + length, y.letter(0, 0, length), length < 6 ? 0 : NONE);
        }
        Document.says("NONE when there is none such.");
        int[][] none = {{0, 0, 6}, {0, 0, -1}, {1, 0, 6}, {1, 0, -1}, {0, 3, 0}, {0, -1, 0}, {1, 2, 0}, {1, -1, 0},
            {2, 0, 0}, {-1, 0, 0},
            {FAR[0], 0, 0}, {FAR[1], 0, 0}, {0, FAR[0], 0}, {0, FAR[1], 0}, {0, 0, FAR[0]}, {0, 0, FAR[1]}};
        for (int[] n : none) {
            Checks.same("letter(" + n[0] + ", " + n[1] + ", " + n[2] + ")", x.letter(n[0], n[1], n[2]), NONE);
        }
        Checks.same("of no GATE", Checks.lake(LAKE).letter(0, 0, 0), NONE);
        Checks.same("of no VILLAGE", Checks.lake(LAKE).letter(1, 0, 0), NONE);
        Stays.behind("letter(2, 0, 0)", NONE, z -> z.letter(2, 0, 0));
    }
}
