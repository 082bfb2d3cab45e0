import com.sun.management.ThreadMXBean;
import java.lang.management.ManagementFactory;

/** A run's room is counted in all that it ever makes; here in bytes, far below the limit. */
public final class RoomTests {
    private static final int CALLS = 512;
    private static final long MOST_BYTES = 1_000_000;
    private static final ThreadMXBean THREADS = (ThreadMXBean) ManagementFactory.getThreadMXBean();
    private static long sink;

    private RoomTests() {
    }

    public static void main(String[] args) {
        fullRun();
        fullRun();
        within("a full run", fullRun());
        newObjects();
        within("512 objects, a member each, a fifth", newObjects() / 5);
        Due.end("RoomTests");
        if (sink == Long.MIN_VALUE) {
            System.out.println(sink);
        }
    }

    private static void within(String what, long bytes) {
        System.out.println("RoomTests: " + what + " made " + bytes + " bytes");
        Due.is(what + " is within " + MOST_BYTES + " bytes", bytes <= MOST_BYTES ? 1 : 0, 1);
    }

    private static long fullRun() {
        long before = THREADS.getCurrentThreadAllocatedBytes();
        ReadingCircles x = new ReadingCircles();
        int calls = 0;
        for (; calls < 8; calls++) {
            sink += x.member();
        }
        for (; calls < 14; calls++) {
            sink += x.circle(255);
        }
        for (; calls < 114; calls++) {
            sink += x.seal(7, calls % 6, -1);
        }
        for (; calls < 126; calls++) {
            sink += x.deliverAll(calls % 6, calls % 2);
        }
        Due.is("letters", x.count(2), 200);
        calls++;
        for (; calls + 3 <= CALLS; calls += 3) {
            sink += x.forge(calls % 8, 0, 3, 100) + x.chain(0, 199) + x.act(calls % 100, 3, calls);
        }
        return THREADS.getCurrentThreadAllocatedBytes() - before;
    }

    private static long newObjects() {
        long before = THREADS.getCurrentThreadAllocatedBytes();
        for (int i = 0; i < CALLS; i++) {
            sink += new ReadingCircles().member();
        }
        return THREADS.getCurrentThreadAllocatedBytes() - before;
    }
}
