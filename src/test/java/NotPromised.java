import java.lang.reflect.Method;
import java.util.ArrayList;
import java.util.Arrays;
import java.util.List;
import java.util.Random;

/** What the document leaves free: nothing of what it does promise goes by that. */
final class NotPromised {
    private static final int PROMISED_CALLS = 512;
    private static final int LATER_CALLS = 3000;

    private NotPromised() {
    }

    static void look() {
        Document.section("Not promised");
        inside();
        objectsAtOnce();
        nothingBeyond();
        later();
    }

    private static void inside() {
        Document.says("How the state is held inside the object is free, as are the speed of each call, the text of toString and the behaviour of equals and hashCode.");
        List<String> free = Arrays.asList("toString", "equals", "hashCode");
        for (Method m : NineBoards.class.getDeclaredMethods()) {
            Checks.holds("none of its own: " + m, !free.contains(m.getName()));
        }
        Stays.behind("toString()", 1, x -> x.toString() == null ? 0 : 1);
        Stays.behind("equals()", 1, x -> x.equals(x) ? 1 : 0);
        Stays.behind("hashCode()", 1, x -> x.hashCode() == x.hashCode() ? 1 : 0);
    }

    /** So many objects, each with calls of its own; how many of them have their calls in turn. */
    private static List<List<Long>> answers(int objects, int inTurn) {
        List<List<Long>> all = new ArrayList<>();
        for (int first = 0; first < objects; first += inTurn) {
            List<NineBoards> made = new ArrayList<>();
            List<AnyCalls> calls = new ArrayList<>();
            for (int k = first; k < first + inTurn; k++) {
                made.add(Checks.lake(k % 2 == 0 ? Stays.LAKE : Years.LAKE));
                calls.add(new AnyCalls(new Random(k)));
                all.add(new ArrayList<>());
            }
            for (int call = 0; call < 400; call++) {
                for (int k = 0; k < inTurn; k++) {
                    all.get(first + k).add(calls.get(k).on(made.get(k)));
                }
            }
            for (int k = 0; k < inTurn; k++) {
                all.get(first + k).addAll(Looks.at(made.get(k)));
            }
        }
        return all;
    }

    private static void objectsAtOnce() {
        Document.says("Use of one object from several threads at once is not promised to be safe.");
        // That is said of one object alone: several ones know nothing of one another.
        Checks.holds("objects in turn answer as each alone", answers(12, 6).equals(answers(12, 1)));
    }

    private static void nothingBeyond() {
        Document.says("Nothing is promised beyond the answers and state changes described above,");
        Stays.asking("fault", x -> x.fault(0));
        Stays.asking("has", x -> x.has(5));
        Stays.asking("letter", x -> x.letter(0, 1, 1));
        Stays.asking("gate", x -> x.gate(1, 4));
        Stays.asking("stream", x -> x.stream(1));
        Stays.asking("all", x -> x.all(3));
        Stays.asking("village", x -> x.village(1, 4));
        Stays.asking("served", x -> x.served(1));
        Stays.asking("weather", x -> x.weather(3, 40, true));
        Stays.asking("would", x -> x.would(0, 7));
        Stays.asking("need", x -> x.need(0));
        Stays.asking("both", x -> x.both(0, 1));
        Stays.asking("until", x -> x.until(9, false));
        Stays.asking("rows", x -> x.rows(12));
        Stays.asking("today", x -> x.today(1, 0));
        Stays.asking("selfish", x -> x.selfish(6, 5));
        Stays.asking("common", x -> x.common(6, 9));
        Stays.asking("share", x -> x.share(6, 1));
        Stays.asking("first", x -> x.first(50, 50));
        Stays.asking("octet", x -> x.octet(3));
    }

    private static void later() {
        Document.says("and nothing about an object after its 512th call.");
        for (int seed = 0; seed < 20; seed++) {
            AnyCalls calls = new AnyCalls(new Random(seed));
            NineBoards x = Checks.lake(seed % 2 == 0 ? Stays.LAKE : TermsOfText.full());
            for (int k = 0; k < PROMISED_CALLS + LATER_CALLS; k++) {
                calls.on(x);
            }
            // What it answers is free, but by LANGUAGE.md no call ever throws or fails to end.
            Checks.holds("it still answers", x.has(4) >= 0);
        }
    }
}
