import java.lang.management.ManagementFactory;

/** The room of a run: rows are made with the object, and no call makes more of them. */
public final class RoomTest {
    private static final Check check = new Check("RoomTest");

    public static void main(String[] args) {
        com.sun.management.ThreadMXBean threads = (com.sun.management.ThreadMXBean) ManagementFactory.getThreadMXBean();
        long id = Thread.currentThread().getId();
        use(new ShortestCode());
        long start = threads.getThreadAllocatedBytes(id);
        ShortestCode x = new ShortestCode();
        long made = threads.getThreadAllocatedBytes(id);
        use(x);
        long used = threads.getThreadAllocatedBytes(id);
        check.holds("an object takes under 64 KiB, not " + (made - start), made - start < 65536);
        check.holds("512 calls take next to nothing, not " + (used - made), used - made < 8192);
        check.end();
    }

    /** 512 calls, the dearest ones among them. */
    private static void use(ShortestCode x) {
        x.words(4, 2);
        x.constant(1);
        x.constant(7);
        x.target(3, 3);
        for (int i = 0; i < 12; i++) {
            x.add(i + 1, i, i + 1);
        }
        for (int i = 0; i < 60; i++) {
            x.search(30, 30000, 1);
            x.aim();
            x.clean();
            x.search(1, 30000, 0);
            x.take();
            x.add(5, 0, 1);
            x.differ(0, -2);
            x.told(0);
        }
    }
}
