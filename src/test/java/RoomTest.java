import java.lang.management.ManagementFactory;

/** The room of a run: an object is small, and its calls make nothing new. */
public final class RoomTest {
    private static final String LAKE = "lake spread 2 holds 99 has 40;gate a plain boards 4 width 1;"
        + "gate b leaks 3 boards 2 width 1;gate c steps 2 boards 9 width 2;join a c;village v gate a;village w gate b;"
        + "thing v gate a from 6 to 7 days 0 to 9 worth 5;thing w gate b from 0 to 99 days 1 to 9 worth 2;"
        + "chapel 5 loss 3;bank 14 loss 4;rain 20 when day = 0;rain 2 when not [day > 3] or all;air level/5 when all;";
    private static final com.sun.management.ThreadMXBean BEAN =
        (com.sun.management.ThreadMXBean) ManagementFactory.getThreadMXBean();

    private RoomTest() {
    }

    public static void main(String[] args) {
        int[] text = Checks.bytes(LAKE);
        // Once ahead, so that what the machine itself makes at the first time is not counted.
        run(new NineBoards(), text);
        long before = bytes();
        NineBoards x = new NineBoards();
        long made = bytes() - before;
        Checks.holds("an object takes " + made + " bytes", made < 120000);
        before = bytes();
        run(x, text);
        long more = bytes() - before;
        Checks.holds("its calls make " + more + " bytes", more < 2000);
        Checks.finish("RoomTest");
    }

    private static long bytes() {
        return BEAN.getThreadAllocatedBytes(Thread.currentThread().getId());
    }

    private static void run(NineBoards x, int[] text) {
        for (int k = 0; k < text.length; k += 20) {
            x.feed(Checks.four(text, k), Checks.four(text, k + 4), Checks.four(text, k + 8), Checks.four(text, k + 12),
                Checks.four(text, k + 16));
        }
        x.end(text.length);
        x.lake();
        for (int k = 0; k < 20; k++) {
            x.act(k % 3);
            x.rest(3);
            x.undo();
            x.selfish(6, 0);
            x.common(6, 9);
            x.share(6, 1);
            x.rows(12);
            x.both(0, 1);
            x.need(0);
            x.until(3, false);
            x.today(0, 0);
            x.first(50, 50);
            x.years(k % 4, 20, 100, 0);
            x.thief();
            x.beaver();
            x.image();
            x.on();
            x.village(0, 4);
            x.gate(0, 4);
            x.would(0, 3);
            x.weather(3, 40, true);
            x.steal(1);
        }
    }
}
