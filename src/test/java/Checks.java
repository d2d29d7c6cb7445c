import java.nio.charset.StandardCharsets;

/** What the tests share: counting wrong answers, and putting bytes on a tape. */
final class Checks {
    private static int asked = 0;
    private static int wrong = 0;
    private static String about = "";

    private Checks() {
    }

    static void same(String what, long got, long want) {
        asked++;
        if (got != want) {
            wrong++;
            if (wrong <= 40) {
                System.out.println(about + what + " answered " + got + ", due is " + want);
            }
        }
    }

    static void holds(String what, boolean got) {
        same(what, got ? 1 : 0, 1);
    }

    static int wrongSoFar() {
        return wrong;
    }

    static int askedSoFar() {
        return asked;
    }

    /** What the answers behind this are about: told ahead of a wrong one. */
    static void about(String words) {
        about = words.isEmpty() ? "" : "\"" + words + "\": ";
    }

    static void finish(String name) {
        System.out.println(name + ": " + asked + " answers looked at, " + wrong + " wrong");
        if (wrong > 0 || asked == 0) {
            System.exit(1);
        }
    }

    static int[] bytes(String text) {
        byte[] latin = text.getBytes(StandardCharsets.ISO_8859_1);
        int[] data = new int[latin.length];
        for (int k = 0; k < data.length; k++) {
            data[k] = latin[k] & 255;
        }
        return data;
    }

    static void put(NineBoards x, int... data) {
        x.end(0);
        for (int k = 0; k < data.length; k += 20) {
            x.feed(four(data, k), four(data, k + 4), four(data, k + 8), four(data, k + 12), four(data, k + 16));
        }
        holds("end(" + data.length + ")", x.end(data.length));
    }

    static void put(NineBoards x, String text) {
        put(x, bytes(text));
    }

    static int four(int[] data, int k) {
        int value = 0;
        for (int i = k; i < k + 4; i++) {
            value = value << 8 | (i < data.length ? data[i] : 32);
        }
        return value;
    }

    /** A text without a fault has as many statements as signs that end them. */
    static void good(String text) {
        NineBoards x = new NineBoards();
        put(x, text);
        same("lake() of " + text, x.lake(), text.chars().filter(c -> c == ';').count());
        same("fault(0) of " + text, x.fault(0), 0);
        same("fault(1) of " + text, x.fault(1), NineBoards.NONE);
    }

    /** The place of the fault stands behind the ^. */
    static void bad(int kind, String marked) {
        int place = marked.indexOf('^');
        String text = marked.substring(0, place) + marked.substring(place + 1);
        NineBoards x = new NineBoards();
        put(x, text);
        same("lake() of " + text, x.lake(), NineBoards.NONE);
        same("fault(0) of " + text, x.fault(0), kind);
        same("fault(1) of " + text, x.fault(1), place);
    }

    /** The bytes of an image, with the byte that is due at its end. */
    static int[] image(int day, int water, int latest, int... boards) {
        int[] data = new int[6 + boards.length];
        data[0] = day >> 8;
        data[1] = day & 255;
        data[2] = water >> 8;
        data[3] = water & 255;
        data[4] = latest;
        System.arraycopy(boards, 0, data, 5, boards.length);
        int c = 67;
        for (int k = 0; k < data.length - 1; k++) {
            c = (3 * c + data[k]) % 251;
        }
        data[data.length - 1] = c;
        return data;
    }

    /** Flows as the tape tells them, two bytes each. */
    static int[] seen(int... flows) {
        int[] data = new int[2 * flows.length];
        for (int g = 0; g < flows.length; g++) {
            data[2 * g] = flows[g] >> 8;
            data[2 * g + 1] = flows[g] & 255;
        }
        return data;
    }

    /** A new object with this lake. */
    static NineBoards lake(String text) {
        NineBoards x = new NineBoards();
        put(x, text);
        holds("lake() of " + text, x.lake() >= 1);
        return x;
    }
}
