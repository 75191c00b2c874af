import com.sun.management.ThreadMXBean;
import java.lang.management.ManagementFactory;

/** All calls of a run live in one room, so a call that throws nothing makes nothing. */
public final class RoomTest {
    private static final long SOME_BYTES = 4096;

    private static long kept = 0;

    private static void everyCall(StockDrawer x, int turn) {
        x.again(turn * 31L);
        kept += x.draw(turn % 6);
        kept += x.part(0, 2) + x.conditions() + x.left(0) + x.pieces(0, 0) + x.most(0) + x.count(6);
        kept += x.leave(0, true) ? 1 : 0;
        kept += x.whole();
        // a verdict of what is so, or shorter() would throw
        kept += x.verdict(x.conditions()) && x.holds() ? 1 : 0;
        kept += x.minimal() ? 1 : 0;
        kept += x.shorter();
        kept += x.same(turn, 5) ? 1 : 0;
    }

    private static long bytesOfARun(ThreadMXBean bean, StockDrawer x) {
        long before = bean.getCurrentThreadAllocatedBytes();
        // 32 turns of 16 calls are the 512 that an object is for
        for (int turn = 0; turn < 32; turn++) {
            everyCall(x, turn);
        }
        return bean.getCurrentThreadAllocatedBytes() - before;
    }

    public static void main(String[] args) {
        ThreadMXBean bean = (ThreadMXBean) ManagementFactory.getThreadMXBean();
        // the first run also loads what the machine itself needs
        bytesOfARun(bean, new StockDrawer(1));
        long bytes = bytesOfARun(bean, new StockDrawer(2));
        boolean small = bytes <= SOME_BYTES && kept != 0;
        System.out.println(small ? "the calls make nothing" : "the calls of a run made " + bytes + " bytes");
        if (!small) {
            System.exit(1);
        }
    }
}
