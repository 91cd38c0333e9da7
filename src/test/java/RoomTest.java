import java.lang.management.ManagementFactory;

/** The room of a run: rows are made in the constructor, and calls make nothing. */
public final class RoomTest {
    private static final com.sun.management.ThreadMXBean THREADS =
            (com.sun.management.ThreadMXBean) ManagementFactory.getThreadMXBean();
    private static final int OBJECTS = 512;

    public static void main(String[] args) {
        calls(new BatchCellars());
        BatchCellars x = new BatchCellars();
        long before = allocated();
        calls(x);
        Due.due("little room for 500 calls", allocated() - before < 2000 ? 1 : 0, 1);
        BatchCellars[] row = new BatchCellars[OBJECTS];
        long start = allocated();
        for (int i = 0; i < OBJECTS; i++) {
            row[i] = new BatchCellars();
        }
        long each = (allocated() - start) / OBJECTS;
        // 7.3 million fields and elements are at least 29 million bytes
        Due.due("room for 512 objects, bytes each " + each, each < 29000000 / OBJECTS ? 1 : 0, 1);
        Due.due("the last one is there", row[OBJECTS - 1].count(0), 0);
        Due.close();
    }

    private static long allocated() {
        return THREADS.getThreadAllocatedBytes(Thread.currentThread().getId());
    }

    private static void calls(BatchCellars x) {
        x.recipe(0);
        x.stage(0, 0, 1, 0, 9);
        x.stage(0, 0, 1, 0, 9);
        x.vessel(0, 99);
        x.vessel(0, 99);
        x.line(3, 9);
        for (int i = 0; i < 16; i++) {
            x.type("t1;x0;b0,9,0;t1;".charAt(i));
        }
        x.begin(0, 9, 0);
        for (int i = 0; i < 50; i++) {
            x.play();
            x.fault(0);
            x.targets(0);
            x.quickest(0, 1);
            x.soonest(0);
            x.urgent(0);
            x.move(0, 1);
            x.count(4);
            x.undo();
        }
    }
}
