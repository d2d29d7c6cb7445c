import java.util.List;
import java.util.function.ToLongFunction;

/** Calls behind which all stays: those that ask alone, and those that are refused. */
final class Stays {
    static final int TAPE = 20;
    /** Of every kind something; on DAY 3, that of w, behind a lift and a set. */
    static final String LAKE = "lake spread 2 holds 60 has 40;gate a plain boards 4 width 1;"
        + "gate bb leaks 3 boards 2 width 1;gate c steps 2 boards 9 width 2;gate d frozen 2 to 3 boards 1 width 1;"
        + "join a c;village v gate a;village w gate bb;thing v gate a from 6 to 17 days 0 to 9 worth 5;"
        + "thing w gate bb from 0 to 99 days 1 to 9 worth 2;chapel 5 loss 3;bank 24 loss 4;rain 20 when day<3;"
        + "rain 2 when all;air level/5 when all;";

    private Stays() {
    }

    static NineBoards prepared() {
        NineBoards x = Checks.lake(LAKE);
        Checks.holds("v lifts", x.act(1) >= 0);
        Checks.holds("w sets", x.act(2) >= 0);
        x.image();
        x.rest(1);
        x.seed(77);
        Checks.same("a tape", x.feed(1, 2, 3, 4, 5), TAPE);
        return x;
    }

    /** It answers so, and all stays as it was: the lake, its days, the image, the tape. */
    static void behind(String call, long want, ToLongFunction<NineBoards> asked) {
        NineBoards x = prepared();
        List<Long> ahead = Looks.at(x);
        Checks.same(call, asked.applyAsLong(x), want);
        Looks.stay(call, x, ahead);
        Looks.tape(call, x, TAPE);
    }

    /** It asks alone: asked again it answers the same, and all stays, the seed, too. */
    static void asking(String call, ToLongFunction<NineBoards> asked) {
        NineBoards x = prepared();
        List<Long> ahead = Looks.at(x);
        long answer = asked.applyAsLong(x);
        Checks.same(call + " again", asked.applyAsLong(x), answer);
        Looks.stay(call, x, ahead);
        Looks.tape(call, x, TAPE);
        Checks.same("years behind " + call, x.years(1, 2, 30, 0), prepared().years(1, 2, 30, 0));
    }

    /** On DAY 999 it answers so, and all stays. */
    static void onTheLastDay(String call, long want, ToLongFunction<NineBoards> asked) {
        NineBoards x = TermsOfDays.at(LAKE, 999, 40, 2, 3, 3, 8, 1);
        List<Long> ahead = Looks.at(x);
        Checks.same(call + " on DAY 999", asked.applyAsLong(x), want);
        Looks.stay(call + " on DAY 999", x, ahead);
    }
}
