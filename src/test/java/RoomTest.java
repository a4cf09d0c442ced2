import com.sun.management.ThreadMXBean;
import java.lang.management.ManagementFactory;

/**
 * What a run of 512 calls makes stays far below the room of 600,000 objects and 7.3 million elements:
 * an object takes 16 bytes at least and an element one, so fewer bytes than LIMIT are at most 125,000
 * objects and 2,000,000 elements.
 */
public final class RoomTest {
    private static final long LIMIT = 2000000;
    private static final int CALLS = 512;
    private static final int NO_ONE = -1;

    private static final ThreadMXBean THREADS = (ThreadMXBean) ManagementFactory.getThreadMXBean();

    private VersionedRows x;
    private int calls;

    public static void main(String[] args) {
        Due due = new Due();
        RoomTest test = new RoomTest();
        due.is("bytes are counted", true, THREADS.isThreadAllocatedMemorySupported());
        test.check(due, "queries", test::runOfQueries);
        test.check(due, "commits of many rows", () -> test.runOfCommits(12));
        test.check(due, "commits of all rows", () -> test.runOfCommits(32));
        test.check(due, "commits of one row", () -> test.runOfCommits(1));
        test.check(due, "flushes and compactions", test::runOfMerges);
        test.check(due, "commits that are FULL", test::runOfFull);
        due.end("RoomTest");
    }

    private void check(Due due, String what, Runnable run) {
        long before = THREADS.getThreadAllocatedBytes(Thread.currentThread().getId());
        x = new VersionedRows();
        calls = 0;
        run.run();
        long made = THREADS.getThreadAllocatedBytes(Thread.currentThread().getId()) - before;
        System.out.println("a run of " + what + ": " + calls + " calls, " + made + " bytes");
        due.is("a run of " + what + " took all calls", CALLS, calls);
        due.is("a run of " + what + " made " + made + " bytes, less than " + LIMIT, true, made < LIMIT);
    }

    private boolean more() {
        boolean isLeft = calls < CALLS;
        calls += isLeft ? 1 : 0;
        return isLeft;
    }

    private void threeIndexes() {
        for (int field = 0; field < 3 && more(); field++) {
            x.say(field, 0);
            x.index();
            calls++;
        }
    }

    private void writeKeys(int t, int keys, int round) {
        for (int key = 0; key < keys && more(); key++) {
            x.write(t, key, round * 100 + key, round % 2, round % 2 == 0 ? 729 : 1458);
        }
    }

    private void runOfQueries() {
        threeIndexes();
        int t = x.begin();
        calls++;
        writeKeys(t, 32, 0);
        while (more()) {
            switch (calls % 4) {
                case 0 -> x.say(0, 0);
                case 1 -> x.say(3, 50);
                case 2 -> x.say(7, 0);
                default -> x.query(t);
            }
        }
    }

    private void runOfCommits(int keys) {
        threeIndexes();
        for (int round = 0; more(); round++) {
            int t = x.begin();
            writeKeys(t, keys, round);
            if (more()) {
                x.commit(t);
            }
        }
    }

    private void runOfMerges() {
        threeIndexes();
        for (int round = 0; more(); round++) {
            int t = x.begin();
            writeKeys(t, 3, round);
            for (int i = 0; i < 4 && more(); i++) {
                switch (i) {
                    case 0 -> x.commit(t);
                    case 1 -> x.flush();
                    default -> x.compact();
                }
            }
        }
    }

    /** A commit that leaves its transaction OPEN was FULL, and is then tried again and again. */
    private void runOfFull() {
        threeIndexes();
        int t = NO_ONE;
        for (int round = 0; round < 10 && x.state(t) != 1; round++) {
            t = x.begin();
            writeKeys(t, 32, round);
            x.commit(t);
            calls += 3;
        }
        while (more()) {
            x.commit(t);
        }
    }
}
