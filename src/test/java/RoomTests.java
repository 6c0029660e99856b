import com.sun.management.ThreadMXBean;
import java.lang.management.ManagementFactory;

/**
 * What a run of 512 calls makes is a fiftieth of the room for all runs at most (600,000 objects, 7.3 million fields
 * and elements). It is measured in bytes: there are no more fields and elements than these.
 */
final class RoomTests {
    private static final int CALLS = 512;
    private static final long MOST_BYTES = 146_000;

    private final Tests tests;
    private final ThreadMXBean bean = (ThreadMXBean) ManagementFactory.getThreadMXBean();

    RoomTests(Tests tests) {
        this.tests = tests;
    }

    /** A call that is made again and again. */
    private interface Call {
        void of(Sortpocket x, int turn);
    }

    void all() {
        fits("a new object", (x, turn) -> { });
        fits("item", (x, turn) -> {
            if (turn < 40) {
                x.item(turn % 10, turn, 1 + turn, turn % 8, 0);
            }
        });
        fits("line", (x, turn) -> x.line(turn % 40, true));
        fits("code", (x, turn) -> x.code(turn % 10));
        fits("digest", (x, turn) -> x.digest());
        fits("isSound", (x, turn) -> x.isSound());
        fits("design and runAll", (x, turn) -> {
            if (turn % 2 == 0) {
                x.design(2 + turn % 5, 2);
            } else {
                x.runAll();
            }
        });
        fits("fewest", (x, turn) -> x.fewest(0));
        fits("hunt", (x, turn) -> x.hunt(turn % 8, turn % 4, 0));
        fits("house", (x, turn) -> x.house(turn % 19));
        fits("ofItem", (x, turn) -> x.ofItem(turn % 40, turn % 14));
        fits("blind", (x, turn) -> x.blind(turn % 40));
    }

    private void fits(String what, Call call) {
        bytesOf(what, call);
        long bytes = bytesOf(what, call);
        tests.same("room for " + what + ", " + bytes + " bytes", bytes <= MOST_BYTES, true);
    }

    private long bytesOf(String what, Call call) {
        long before = bean.getThreadAllocatedBytes(Thread.currentThread().getId());
        Sortpocket x = new Sortpocket();
        int made = what.equals("item") ? 0 : fill(x);
        for (int turn = 0; turn < CALLS - made; turn++) {
            call.of(x, turn);
        }
        return bean.getThreadAllocatedBytes(Thread.currentThread().getId()) - before;
    }

    /** Makes all that there may be; tells by how many calls. */
    private static int fill(Sortpocket x) {
        for (int bank = 0; bank < 9; bank++) {
            x.end(bank);
        }
        for (int item = 0; item < 40; item++) {
            x.item(item % 10, item, 1 + item, item % 8, item % 3 == 0 ? 3 : 1);
        }
        for (int stub = 0; stub < 16; stub++) {
            x.stub(stub, 1 + stub);
        }
        x.readAll();
        x.design(2, 2);
        return 9 + 40 + 16 + 2;
    }
}
