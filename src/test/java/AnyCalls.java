import java.util.Random;

/** Any call with any numbers, sensible ones or not. */
final class AnyCalls {
    private static final int[] FAR = {Integer.MIN_VALUE, Integer.MIN_VALUE + 1, -1000000000, -2, -1, 999, 1000, 9999,
        10000, 1 << 30, Integer.MAX_VALUE - 1, Integer.MAX_VALUE};
    private final Random random;

    AnyCalls(Random random) {
        this.random = random;
    }

    private int any() {
        return random.nextInt(4) == 0 ? FAR[random.nextInt(FAR.length)] : random.nextInt(17);
    }

    private static long one(boolean answer) {
        return answer ? 1 : 0;
    }

    long on(NineBoards x) {
        int sort = random.nextInt(4);
        return sort == 0 ? tape(x) : sort == 1 ? asks(x) : sort == 2 ? goes(x) : plans(x);
    }

    private long tape(NineBoards x) {
        switch (random.nextInt(10)) {
            case 0:
                return x.feed(any(), any(), random.nextInt(), any(), any());
            case 1:
                return one(x.end(any()));
            case 2:
                return x.lake();
            case 3:
                return x.fault(any());
            case 4:
                return x.thief();
            case 5:
                return x.beaver();
            case 6:
                return one(x.on());
            case 7:
                return x.image();
            case 8:
                return x.octet(any());
            default:
                return one(x.seed(any()));
        }
    }

    private long asks(NineBoards x) {
        switch (random.nextInt(8)) {
            case 0:
                return x.has(any());
            case 1:
                return x.letter(any(), any(), any());
            case 2:
                return x.gate(any(), any());
            case 3:
                return x.stream(any());
            case 4:
                return x.all(any());
            case 5:
                return x.village(any(), any());
            case 6:
                return x.served(any());
            default:
                return x.weather(any(), any(), random.nextBoolean());
        }
    }

    private long goes(NineBoards x) {
        switch (random.nextInt(8)) {
            case 0:
                return x.rest(any());
            case 1:
                return one(x.undo());
            case 2:
                return x.would(any(), any());
            case 3:
                return x.need(any());
            case 4:
                return x.both(any(), any());
            case 5:
                return x.until(any(), random.nextBoolean());
            case 6:
                return x.steal(any());
            default:
                return x.act(any());
        }
    }

    private long plans(NineBoards x) {
        switch (random.nextInt(7)) {
            case 0:
                return x.rows(any());
            case 1:
                return x.today(any(), any());
            case 2:
                return x.selfish(any(), any());
            case 3:
                return x.common(any(), any());
            case 4:
                return x.share(any(), any());
            case 5:
                return x.first(any(), any());
            default:
                return x.years(any(), any(), any(), any());
        }
    }
}
