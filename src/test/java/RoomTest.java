import java.lang.management.ManagementFactory;

/** Runs of the dearest calls stay far below the room of 7.3 million fields and elements. */
public final class RoomTest {
    private static final Check CHECK = new Check();
    private static final com.sun.management.ThreadMXBean THREADS =
        (com.sun.management.ThreadMXBean) ManagementFactory.getThreadMXBean();

    public static void main(String[] args) {
        due("the dearest calls", RoomTest::dearestRun, 4_000_000);
        due("copies that get longer", RoomTest::growingRun, 4_000_000);
        due("a tray that gets longer", RoomTest::feedingRun, 200_000);
        CHECK.end();
    }

    private static void due(String what, Runnable run, long allowed) {
        // The first run also loads classes, which the room does not count.
        run.run();
        long before = THREADS.getCurrentThreadAllocatedBytes();
        run.run();
        long taken = THREADS.getCurrentThreadAllocatedBytes() - before;
        System.out.println(what + ": " + taken + " bytes");
        CHECK.due("more than " + allowed + " bytes for " + what, taken > allowed ? 1 : 0, 0);
    }

    private static void dearestRun() {
        SliceViews x = new SliceViews();
        Check.grid(x, 250, 200);
        Check.tellSizes(x, 250, 200);
        x.shaped(1);
        for (int n = 0; n < 100; n++) {
            x.copy(1, 2);
            x.shares(1, 1);
            x.view(1);
            Check.tellSizes(x, 250, 200);
            x.shaped(1);
        }
    }

    /** A row that were made anew for each longer copy would fill the room. */
    private static void growingRun() {
        SliceViews x = new SliceViews();
        Check.grid(x, 1000, 100);
        for (int n = 0; n < 80; n++) {
            int v = Check.view(x, 1, ":" + (900 + n));
            CHECK.due("cells of view " + n, x.cells(v), 90000 + 100 * n);
            CHECK.due("copy " + n, x.copy(v, v), 0);
        }
    }

    private static void feedingRun() {
        SliceViews x = new SliceViews();
        for (int n = 0; n < 512; n++) {
            x.feed(n, n, n, n, n);
        }
    }
}
