import com.sun.management.ThreadMXBean;
import java.lang.management.ManagementFactory;

/** All calls of one run live in one room: an object takes little of it, and its calls take none. */
public final class RoomTest {
    private static final long OBJECT_BYTES = 40_000;
    private static final long CALLS_BYTES = 2_000;
    private static final String MOVES = "a2-a3;a5-a4;a3-a2;a4-a5";

    private final ThreadMXBean meter = (ThreadMXBean) ManagementFactory.getThreadMXBean();
    private final long thread = Thread.currentThread().getId();

    public static void main(String[] args) {
        RoomTest test = new RoomTest();
        // The first runs load what the machine needs.
        for (int i = 0; i < 20; i++) {
            test.calls(new LoopCaptures());
        }
        long start = test.taken();
        LoopCaptures x = new LoopCaptures();
        long made = test.taken();
        test.calls(x);
        long called = test.taken();
        Check.due("an object that takes " + (made - start) + " bytes is small", made - start <= OBJECT_BYTES ? 1 : 0, 1);
        Check.due("calls that take " + (called - made) + " bytes make nothing", called - made <= CALLS_BYTES ? 1 : 0, 1);
        Check.finish("RoomTest");
    }

    private long taken() {
        return meter.getThreadAllocatedBytes(thread);
    }

    /** Every method, in some 460 calls: an object is used for at most 512. */
    private void calls(LoopCaptures x) {
        for (int i = 0; i < MOVES.length(); i++) {
            x.type(MOVES.charAt(i));
        }
        for (int i = 0; i < 20; i++) {
            x.perform();
            x.keep();
            x.setUp(0, i % 3);
            x.look(2);
            x.best(2);
            x.play(2);
            x.turn();
            x.restore();
            x.setLimit(4 + i);
            x.possible(i);
            x.point(i, i % 5);
            x.way(i, 35 - i, 0);
            x.reason(i, i + 6, false);
            x.circuit(0, i);
            x.count(i % 14);
            x.count(9);
            x.count(11);
            x.move(6, 12);
            x.capture(6, 12);
            x.stopped(0);
            x.undo();
            x.begin();
        }
        x.clearText();
    }
}
