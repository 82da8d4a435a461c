import com.sun.management.ThreadMXBean;
import java.lang.management.ManagementFactory;
import java.util.NoSuchElementException;

/**
 * What a run of 512 calls makes is far below the room for all of it (600,000 objects, 7.3 million
 * fields and elements): no object takes less than 16 bytes and no element less than one, so the
 * bytes that the machine counts are enough to tell.
 */
public final class RoomTest {
    private static final int CALLS = 512;
    private static final long MOST_BYTES = 700_000;

    private final ThreadMXBean machine = (ThreadMXBean) ManagementFactory.getThreadMXBean();
    private final Checks checks = new Checks();

    public static void main(String[] args) {
        RoomTest test = new RoomTest();
        test.measure("feeding and committing", RoomTest::feedAndCommit);
        test.measure("committing alone", RoomTest::commitAlone);
        test.measure("asking", RoomTest::askAll);
        test.measure("throwing", RoomTest::throwAlways);
        test.checks.finish("RoomTest");
    }

    private void measure(String name, Runnable run) {
        // The first time the machine makes things of its own, such as the classes.
        run.run();
        long before = machine.getCurrentThreadAllocatedBytes();
        run.run();
        long bytes = machine.getCurrentThreadAllocatedBytes() - before;
        checks.due(name + " is counted", bytes > 0, true);
        checks.due(name + " makes " + bytes + " bytes, few enough", bytes <= MOST_BYTES, true);
    }

    /** As many and as long pieces as the calls can make: no text has anything of its base. */
    private static void feedAndCommit() {
        TextKeeper keeper = new TextKeeper();
        keeper.make();
        for (int call = 1, next = 0; call + 13 <= CALLS; call += 13) {
            for (int k = 0; k < 12; k++) {
                keeper.feed(next, next + 1, next + 2, next + 3, next + 4);
                next += 5;
            }
            keeper.commit(0, call);
        }
    }

    private static void commitAlone() {
        TextKeeper keeper = new TextKeeper();
        for (int call = 0; call < CALLS; call++) {
            if (call % 64 == 0) {
                keeper.make();
            } else {
                keeper.commit(call / 64, call);
            }
        }
    }

    private static void askAll() {
        TextKeeper keeper = new TextKeeper();
        keeper.make();
        for (int r = 0; r < 64; r++) {
            keeper.feed(r, r + 1, r + 2, r + 3, r + 4);
            keeper.commit(0, r);
        }
        for (int call = 129; call + 7 <= CALLS; call += 7) {
            keeper.fetch(0, 63);
            keeper.common(0, 63, 62, call % 2);
            keeper.verify(0);
            keeper.freeBlocks();
            keeper.revision(0, 63, 2);
            keeper.damage(0, 63, 0, 0);
            keeper.trim(0, 0);
        }
    }

    private static void throwAlways() {
        TextKeeper keeper = new TextKeeper();
        for (int call = 0; call < CALLS; call++) {
            try {
                keeper.revision(0, 0, 0);
                throw new AssertionError("there is no document");
            } catch (NoSuchElementException e) {
                // What is thrown is made too, so it is counted with the rest.
            }
        }
    }
}
