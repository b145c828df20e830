import com.sun.management.ThreadMXBean;
import java.lang.management.ManagementFactory;

/**
 * All calls of one run live in one room, so that what a call makes counts as often as it is called:
 * an object is small, and its 512 calls, the dearest ones too, make nothing.
 */
public final class RoomTest {
    private static final int MOST_CALLS = 512;
    /** What one object may take: some ten thousand elements. */
    private static final long MOST_BYTES = 40_000;
    /** Java's own bookkeeping now and then makes something beside the program. */
    private static final long SLACK = 4_000;

    private final Due due = new Due();
    private final ThreadMXBean threads = (ThreadMXBean) ManagementFactory.getThreadMXBean();

    public static void main(String[] args) {
        RoomTest test = new RoomTest();
        // The first run loads classes, which makes objects of Java's own.
        test.bytesOfARun(new HashSigner());
        test.anObjectIsSmall();
        test.callsMakeNothing();
        test.due.end();
    }

    private long bytesMade() {
        return threads.getThreadAllocatedBytes(Thread.currentThread().getId());
    }

    private void anObjectIsSmall() {
        long before = bytesMade();
        HashSigner x = new HashSigner();
        long bytes = bytesMade() - before;
        due.is("a new object takes " + bytes + " bytes, few enough", bytes <= MOST_BYTES ? 1 : 0, 1);
        due.is("its told(0)", x.told(0), 0);
    }

    private void callsMakeNothing() {
        long bytes = bytesOfARun(new HashSigner());
        due.is("512 calls make " + bytes + " bytes, none to speak of", bytes <= SLACK ? 1 : 0, 1);
    }

    private long bytesOfARun(HashSigner x) {
        long before = bytesMade();
        int sum = 0;
        for (int i = 0; i < MOST_CALLS / 16; i++) {
            sum += x.shape(i % 2, 16, 2, 2, 4, 6) + x.seed(i % 3, i, -i) + x.feed(i, i, i, i, i) + x.hash(i % 2);
            sum += x.key() + x.sign() + x.verify() + x.signWith(i, i) + x.alter(i, i) + x.verify();
            sum += x.leaf(0, 3, 3, 0) + x.root(0) + x.ledTo(0) + x.index(0) + x.cut(i) + x.trim(i + 1);
        }
        long bytes = bytesMade() - before;
        due.is("no refusal in all", sum > 0 ? 1 : 0, 1);
        return bytes;
    }
}
