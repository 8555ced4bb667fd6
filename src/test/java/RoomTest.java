import java.lang.management.ManagementFactory;

/**
 * What an object and its 512 calls make stays far within the room: a million bytes are less than
 * 63,000 objects (16 bytes each at least) and less than 250,000 fields and elements of ints.
 */
public final class RoomTest {
    private static final long BYTES_MOST = 1_000_000;
    private static final com.sun.management.ThreadMXBean THREADS =
        (com.sun.management.ThreadMXBean) ManagementFactory.getThreadMXBean();

    private interface Run {
        void on(RasterHouse r);
    }

    public static void main(String[] args) {
        measure("jobs of many leaves, taken back", RoomTest::jobsOfManyLeaves);
        measure("rows of all kinds, and all tiles written", RoomTest::rowsOfAllKinds);
        measure("leaves asked", RoomTest::leavesAsked);
        measure("copies and gradings", RoomTest::copiesAndGradings);
        Check.end();
    }

    /** The second time, as the first one also loads classes. */
    private static void measure(String what, Run run) {
        run.on(new RasterHouse());
        long before = bytesMade();
        run.on(new RasterHouse());
        long made = bytesMade() - before;
        Check.due(what + ": within the room (" + made + " bytes)", made <= BYTES_MOST ? 1 : 0, 1);
    }

    private static long bytesMade() {
        return THREADS.getThreadAllocatedBytes(Thread.currentThread().getId());
    }

    /** A shape with 100 within it, 88 of them leaves. */
    private static int large(RasterHouse r) {
        int box = Edge.box(r, 0, 0, 8192, 8192);
        int eight = Edge.nest(r, 8, box, box, box, box, box, box, box, box);
        int many = Edge.nest(r, 8, eight, eight, eight, eight, eight, eight, eight, eight);
        return Edge.nest(r, 8, many, eight, eight, eight);
    }

    private static void allKinds(RasterHouse r) {
        for (int kind = 0; kind < 8; kind++) r.plane(kind, 32, 32);
    }

    private static void jobsOfManyLeaves(RasterHouse r) {
        int large = large(r);
        allKinds(r);
        for (int i = 0; i < 118; i++) {
            r.begin(i % 8, i % 8 == 7 ? Edge.NONE : 7, i < 10 ? large : 0, i % 2);
            r.go(40);
            if (r.told(5) == 1) r.halt();
            r.undo();
        }
    }

    private static void rowsOfAllKinds(RasterHouse r) {
        allKinds(r);
        r.blank(0, 1);
        for (int i = 0; i < 500; i++) {
            if (i % 100 < 60) r.tile(i % 8, i / 8 % 4, i / 32 % 4, i * 7 % 8, 64);
            else r.mask(1 + i % 7, 0, i);
        }
    }

    private static void leavesAsked(RasterHouse r) {
        int large = large(r);
        for (int i = 0; i < 160; i++) {
            r.covered(large, i % 32, i / 32);
            r.hit(large, i, i);
            r.bounds(large, i % 5);
        }
    }

    private static void copiesAndGradings(RasterHouse r) {
        allKinds(r);
        for (int i = 0; i < 240; i++) {
            r.copy(i % 8, 0, 0, 31, 31, i % 8, 1, 1);
            r.grade(6 + i % 2, i / 2 % 8);
        }
    }
}
