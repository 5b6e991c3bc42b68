import java.lang.management.ManagementFactory;

/** All calls of a run share one room: an object is small, and its calls make nothing more. */
public final class RoomTest {
    public static void main(String[] args) {
        Check check = new Check();
        com.sun.management.ThreadMXBean threads =
            (com.sun.management.ThreadMXBean) ManagementFactory.getThreadMXBean();
        long self = Thread.currentThread().getId();
        everyCall(new LeafSigner(1, 1));
        threads.getThreadAllocatedBytes(self);

        long start = threads.getThreadAllocatedBytes(self);
        LeafSigner x = new LeafSigner(4, 8);
        long made = threads.getThreadAllocatedBytes(self);
        for (int t = 0; t < 10; t++) {
            everyCall(x);
        }
        long called = threads.getThreadAllocatedBytes(self);

        check.due("an object of " + (made - start) + " bytes is small", made - start < 32768, true);
        check.due("calls that made " + (called - made) + " bytes make nothing", called - made < 4096, true);
        check.finish();
    }

    private static void everyCall(LeafSigner x) {
        for (int k = 0; k < 5; k++) {
            x.feed(k, 2, 3, 4, 5);
        }
        x.keys();
        x.fuse(100);
        for (int i = 0; i < 17; i++) {
            x.feed(i, 2, 3, 4, 5);
            x.sign(7);
            x.hold();
            x.alter(i, 1);
            x.verify(0);
            x.leaf(i);
            x.about(i);
            x.disk(i);
            x.node(0, i, i);
            x.out(i);
        }
        x.fall();
        x.rise();
    }
}
