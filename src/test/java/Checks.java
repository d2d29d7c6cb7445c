import java.nio.charset.StandardCharsets;

/** What the tests share: counting wrong answers, and putting bytes on a tape. */
final class Checks {
    private static int asked = 0;
    private static int wrong = 0;

    private Checks() {
    }

    static void same(String what, long got, long want) {
        asked++;
        if (got != want) {
            wrong++;
            if (wrong <= 40) {
                System.out.println(what + " answered " + got + ", due is " + want);
            }
        }
    }

    static void holds(String what, boolean got) {
        same(what, got ? 1 : 0, 1);
    }

    static int wrongSoFar() {
        return wrong;
    }

    static void finish(String name) {
        System.out.println(name + ": " + asked + " answers looked at, " + wrong + " wrong");
        if (wrong > 0 || asked == 0) {
            System.exit(1);
        }
    }

    static int[] bytes(String text) {
        byte[] latin = text.getBytes(StandardCharsets.ISO_8859_1);
        int[] data = new int[latin.length];
        for (int k = 0; k < data.length; k++) {
            data[k] = latin[k] & 255;
        }
        return data;
    }

    static void put(NineBoards x, int... data) {
        x.end(0);
        for (int k = 0; k < data.length; k += 20) {
            x.feed(four(data, k), four(data, k + 4), four(data, k + 8), four(data, k + 12), four(data, k + 16));
        }
        holds("end(" + data.length + ")", x.end(data.length));
    }

    static void put(NineBoards x, String text) {
        put(x, bytes(text));
    }

    static int four(int[] data, int k) {
        int value = 0;
        for (int i = k; i < k + 4; i++) {
            value = value << 8 | (i < data.length ? data[i] : 32);
        }
        return value;
    }

    /** A new object with this lake. */
    static NineBoards lake(String text) {
        NineBoards x = new NineBoards();
        put(x, text);
        holds("lake() of " + text, x.lake() >= 1);
        return x;
    }
}
