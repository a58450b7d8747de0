import com.sun.management.ThreadMXBean;
import java.lang.management.ManagementFactory;

/** All calls of one run live in one room: a bench is small, and its calls make no objects. */
public final class RoomTest {
    private static final ThreadMXBean THREADS = (ThreadMXBean) ManagementFactory.getThreadMXBean();

    public static void main(String[] args) {
        Check.runAll(RoomTest.class);
    }

    private static void benchesAreSmall() {
        RelayBench[] benches = new RelayBench[1000];
        long before = made();
        for (int k = 0; k < benches.length; k++) {
            benches[k] = new RelayBench();
        }
        Check.yes("a bench takes no more than 16 KB", (made() - before) / benches.length <= 16_000);
    }

    private static void callsMakeNoObjects() {
        RelayBench x = oscillators();
        RelayBench y = Benches.chain(9);
        long sum = dearCalls(x, y);
        long start = made();
        for (int k = 0; k < 40; k++) {
            sum += dearCalls(x, y);
        }
        Check.yes("no more than measuring takes", made() - start <= 4_000);
        Check.yes("answers are used", sum != 0);
    }

    private static long made() {
        return THREADS.getThreadAllocatedBytes(Thread.currentThread().getId());
    }

    /** Sixteen relays with circles of different lengths, so that no state comes twice soon. */
    private static RelayBench oscillators() {
        RelayBench x = new RelayBench();
        x.knob(0, 40);
        for (int r = 0; r < 16; r++) {
            x.relay(2 + r, 1, 1 + r % 9, 1);
            x.contact(3, r, 40, 2 + r);
        }
        x.turn(0, true);
        x.tick(1);
        return x;
    }

    private static long dearCalls(RelayBench x, RelayBench y) {
        long sum = x.race(0, true, 6, 100);
        sum += x.race(0, false, 6, 100);
        sum += x.tick(500);
        sum += y.circle(500) + y.settle(500);
        y.turn(0, sum % 2 == 0);
        sum += x.ups() + x.lit() + x.node(5) + x.count(5) + x.state(3, 2);
        sum += x.leads(0, 40) ? 1 : 0;
        return sum;
    }
}
