import com.sun.management.ThreadMXBean;
import java.lang.management.ManagementFactory;

/** All calls of a run live in one room: only the constructor makes rows, calls make nothing. */
public final class RoomTest {
    private static final String TOWN = "place 50 50;place 10 0;place 0 90;place 99 99;place 40 7;place 77 1;place 5 66;"
            + "letter 1 9 150 90;letter 2 8 300 80;letter 3 9 500 70;letter 4 7 200 60;letter 5 9 400 50;"
            + "letter 6 9 700 40;letter 0 6 800 30;stone 0;";

    private static int answers = 0;

    public static void main(String[] args) {
        HeaviestFirst x = Check.town(TOWN, 7);
        dearCalls(x);
        ThreadMXBean threads = (ThreadMXBean) ManagementFactory.getThreadMXBean();
        long before = threads.getCurrentThreadAllocatedBytes();
        dearCalls(x);
        long made = threads.getCurrentThreadAllocatedBytes() - before;
        // the asking itself makes a little
        Check.holds("calls make nothing, but made " + made + " bytes", made < 4096);
        Check.holds("answers came", answers != 0);
        Check.end("RoomTest");
    }

    private static void dearCalls(HeaviestFirst x) {
        for (int round = 0; round < 8; round++) {
            x.law(round % 3);
            answers += x.best() + x.shortest(-1) + x.inTime(-1) + x.rests(-1) + x.answer(3) + x.two(0);
            answers += x.agreed(127, 0) + x.drift(5) + x.ends(0, 0) + x.came(round % 7) + x.write(0, 5) + x.judge();
            answers += x.keep(0) + x.goBack(0) + x.tear() + x.told(8) + x.letter(2, 7) + x.order(1) + x.feed(1, 32);
        }
    }
}
