import java.lang.management.ManagementFactory;

/**
 * What the dearest calls make, counted by the machine: as many of each as an object is good for must leave nearly all
 * of the run's one room (600,000 objects, 7.3 million fields and elements) free.
 */
public final class RoomTest {
    private static final long MOST_BYTES = 1_500_000;
    private static final int MOST_CALLS = 512;
    private static final int FILLING_CALLS = 200;

    private static final com.sun.management.ThreadMXBean THREADS =
        (com.sun.management.ThreadMXBean) ManagementFactory.getThreadMXBean();

    private static boolean isGood = true;
    private static long sum;

    private interface Call {
        long answer(Patchstore x);
    }

    private static long bytes() {
        return THREADS.getThreadAllocatedBytes(Thread.currentThread().getId());
    }

    /** All 24 changes, 56 lines, and a clash over all three stores' lines in store 0; by fewer than 200 calls. */
    private static Patchstore full() {
        Patchstore x = new Patchstore();
        for (int change = 0; change < 24; change++) {
            for (int rest = x.house(4); rest > 0; rest--) {
                x.erase(0);
            }
            for (int k = 0; k < (change < 16 ? 3 : 1); k++) {
                x.type(k, (change + k) % 26);
            }
            x.record(change % 3, 0);
        }
        x.pull(0, 1);
        x.pull(0, 2);
        return x;
    }

    private static void look(String name, Call call) {
        Patchstore x = full();
        long before = bytes();
        for (int k = FILLING_CALLS; k < MOST_CALLS; k++) {
            sum += call.answer(x);
        }
        check(name, bytes() - before);
    }

    private static void check(String name, long made) {
        if (made > MOST_BYTES) {
            System.out.println(name + ": all calls together make " + made + " bytes");
            isGood = false;
        }
    }

    public static void main(String[] args) {
        long before = bytes();
        Patchstore x = full();
        check("filling", bytes() - before);
        look("digest", Patchstore::digest);
        look("isSound", some -> some.isSound() ? 1 : 0);
        look("shown", some -> some.shown(0, 0).length());
        look("blame", some -> some.blame(0, 0).length());
        look("edits", some -> some.edits(3).length());
        look("wouldClash", some -> some.wouldClash(1, 2));
        look("pull", some -> some.pull(2, 0));
        if (!isGood || sum == 0 || x.house(1) != 24) {
            System.exit(1);
        }
        System.out.println("RoomTest: the dear calls make little");
    }
}
