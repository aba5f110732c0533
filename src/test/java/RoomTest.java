import com.sun.management.ThreadMXBean;
import java.lang.management.ManagementFactory;

/** All calls of a run live in one room: an object is small, and its calls make no others. */
public final class RoomTest {
    private static final ThreadMXBean threads = (ThreadMXBean) ManagementFactory.getThreadMXBean();

    public static void main(String[] args) {
        Check check = new Check();
        TickKeeper first = new TickKeeper();
        dearCalls(first);
        allocated();
        long before = allocated();
        TickKeeper x = new TickKeeper();
        long made = allocated();
        dearCalls(x);
        long after = allocated();
        check.yes("an object takes " + (made - before) + " bytes", made - before < 32 * 1024);
        // The measuring itself may take a little.
        check.yes("its calls take " + (after - made) + " bytes", after - made < 4 * 1024);
        check.end();
    }

    private static long allocated() {
        return threads.getCurrentThreadAllocatedBytes();
    }

    private static void dearCalls(TickKeeper x) {
        for (int i = 0; i < 8; i++) {
            x.shift(0, 1000 * i + 7, i % 2 == 0 ? 900 : -900);
            x.set(i, 1, 1);
            x.set(i, 2, i % 3);
            x.set(i, 3, 100000);
            x.mask(i, 0, -1, -1);
            x.holiday(0, i);
        }
        for (int i = 0; i < 55; i++) {
            x.time(1000 * i);
            x.wake(i % 3);
            x.deliver(0);
            x.deliver(x.letters() - 1);
            x.twin(1);
            x.due(i % 8, 0);
            x.lose(2);
        }
        x.mask(0, 2, 0, 1 << 30);
        x.mask(0, 3, 0, 1 << 2);
        x.due(0, 0);
    }
}
