import com.sun.management.ThreadMXBean;
import java.lang.management.ManagementFactory;

/** All calls of a run live in one room: an object makes its rows once, and its calls make nothing more. */
public final class RoomTest {
    private static final int CALLS = 512;
    private static final long MOST_OF_AN_OBJECT = 64 * 1024;
    /** What the machine itself may make on the side. */
    private static final long MOST_OF_ALL_CALLS = 4 * 1024;

    private static int sum = 0;

    public static void main(String[] args) {
        if (ManagementFactory.getThreadMXBean() instanceof ThreadMXBean beans) {
            WheelBook first = Full.book();
            dearestCalls(first);
            texts(first);
            long start = beans.getCurrentThreadAllocatedBytes();
            WheelBook x = new WheelBook();
            long made = beans.getCurrentThreadAllocatedBytes() - start;
            Check.is("an object of " + made + " bytes", made <= MOST_OF_AN_OBJECT, true);
            start = beans.getCurrentThreadAllocatedBytes();
            texts(x);
            made = beans.getCurrentThreadAllocatedBytes() - start;
            Check.is("texts make " + made + " bytes", made <= MOST_OF_ALL_CALLS, true);
            x = Full.book();
            start = beans.getCurrentThreadAllocatedBytes();
            dearestCalls(x);
            made = beans.getCurrentThreadAllocatedBytes() - start;
            Check.is("calls make " + made + " bytes", made <= MOST_OF_ALL_CALLS, true);
        }
        Check.is("the calls were made", sum != 0, true);
        Check.end("RoomTest");
    }

    /** "hand 1 for 2;" and blanks, as a HOUSE and, with a FAULT, as a WHEEL. */
    private static void texts(WheelBook x) {
        for (int i = 0; i < CALLS / 4; i++) {
            sum += x.feed(0x68616e64, 0x20312066, 0x6f722032, 0x3b202020, 0x20202020);
            sum += x.house(20);
            sum += x.feed(0x68616e64, 0x20312066, 0x6f722032, 0x3b202020, 0x20202020);
            sum += x.wheel(0, 0, 20);
        }
    }

    private static void dearestCalls(WheelBook x) {
        for (int i = 0; i < CALLS / 16; i++) {
            sum += x.best(5, 19, 3, 0, 5000);
            sum += x.whose(5, 19, 0, 5000, 0);
            sum += x.mixed(5, 0, 0, 5000);
            sum += x.on(5000);
            sum += x.image() ? 1 : 0;
            sum += x.restore() ? 1 : 0;
            sum += x.hour(0, 0, -1);
            sum += x.possible(0, 0, 1);
            sum += x.errors(5, 19, 7, 1);
            sum += x.births(-1, 1);
            sum += x.tree();
            sum += x.slips(1, 0);
            sum += x.order(0, 1, 0);
            sum += x.hits(1, 3);
            sum += x.fates(1);
            sum += x.count(2);
        }
    }
}
