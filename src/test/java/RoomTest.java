import java.lang.management.ManagementFactory;

/**
 * What the dearest calls make, counted by the machine: 512 of each on a full object must leave nearly all of the
 * run's one room (600,000 objects, 7.3 million fields and elements) free.
 */
public final class RoomTest {
    private static final long MOST_BYTES = 1_500_000;

    private static final com.sun.management.ThreadMXBean THREADS =
        (com.sun.management.ThreadMXBean) ManagementFactory.getThreadMXBean();

    private static long bytes() {
        return THREADS.getThreadAllocatedBytes(Thread.currentThread().getId());
    }

    private static Patchstore full() {
        Patchstore x = new Patchstore();
        for (int change = 0; change < 24; change++) {
            while (x.house(4) > 0) {
                x.erase(0);
            }
            for (int k = 0; k < (change < 18 ? 3 : 1); k++) {
                x.type(k, (change + k) % 26);
            }
            x.record(change % 3, 0);
        }
        x.pull(0, 1);
        x.pull(0, 2);
        return x;
    }

    private static boolean isSmall(String call, long before) {
        long made = bytes() - before;
        if (made > MOST_BYTES) {
            System.out.println("512 times " + call + " make " + made + " bytes");
        }
        return made <= MOST_BYTES;
    }

    public static void main(String[] args) {
        long before = bytes();
        Patchstore x = full();
        boolean isGood = isSmall("(not these, but the filling)", before);
        long sum = 0;
        before = bytes();
        for (int k = 0; k < 512; k++) {
            sum += x.digest();
        }
        isGood &= isSmall("digest", before);
        before = bytes();
        for (int k = 0; k < 512; k++) {
            sum += x.shown(0, 0).length();
        }
        isGood &= isSmall("shown", before);
        before = bytes();
        for (int k = 0; k < 512; k++) {
            sum += x.blame(0, 0).length();
        }
        isGood &= isSmall("blame", before);
        if (!isGood || sum == 0) {
            System.exit(1);
        }
        System.out.println("RoomTest: the dear calls make little");
    }
}
