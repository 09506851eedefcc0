import com.sun.management.ThreadMXBean;
import java.lang.management.ManagementFactory;

/** A run of the dearest calls may make little: all its objects live in one room. */
final class RoomTests {
    /** Of 7.3 million fields and elements, of 4 to 8 bytes each, a small part. */
    private static final long BYTES_AT_MOST = 1_000_000;

    private final Checks checks;

    RoomTests(Checks checks) {
        this.checks = checks;
    }

    void run() {
        ThreadMXBean threads = (ThreadMXBean) ManagementFactory.getThreadMXBean();
        long thread = Thread.currentThread().getId();
        dearCalls();
        long before = threads.getThreadAllocatedBytes(thread);
        dearCalls();
        long made = threads.getThreadAllocatedBytes(thread) - before;
        checks.yes("a run made " + made + " bytes", made > 0 && made < BYTES_AT_MOST);
    }

    private void dearCalls() {
        OrderPatterns x = new OrderPatterns();
        for (int i = 0; i < 51; i++) {
            x.make(i % 12, 0, 0);
            x.add(i % 12, 123456);
            x.count(i % 12, 8);
            x.turnedClass(i % 12, 3, 11);
            x.keep(0, 1, i % 12, 0);
            x.keep(1, 4, 11, 0);
            x.row(2, 3, 60);
            x.most(2413, 6);
            x.parts(123456789, 11);
            x.alike(41352);
        }
    }
}
