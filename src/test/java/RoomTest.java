import java.lang.management.ManagementFactory;

/** A run of the dearest calls stays far below the room of 7.3 million fields and elements. */
public final class RoomTest {
    private static final Check CHECK = new Check();
    private static final long BYTES_ALLOWED = 4_000_000;

    public static void main(String[] args) {
        com.sun.management.ThreadMXBean threads = (com.sun.management.ThreadMXBean) ManagementFactory.getThreadMXBean();
        dearestRun();
        long before = threads.getCurrentThreadAllocatedBytes();
        dearestRun();
        long taken = threads.getCurrentThreadAllocatedBytes() - before;
        System.out.println("a run of the dearest calls takes " + taken + " bytes");
        CHECK.due("more than " + BYTES_ALLOWED + " bytes: " + taken, taken > BYTES_ALLOWED ? 1 : 0, 0);
        CHECK.end();
    }

    private static void dearestRun() {
        SliceViews x = new SliceViews();
        Check.grid(x, 250, 200);
        Check.tellSizes(x, 250, 200);
        x.shaped(1);
        for (int n = 0; n < 100; n++) {
            x.copy(1, 2);
            x.shares(1, 1);
            x.view(1);
            Check.tellSizes(x, 250, 200);
            x.shaped(1);
        }
    }
}
