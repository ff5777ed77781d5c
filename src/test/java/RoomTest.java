import com.sun.management.ThreadMXBean;
import java.lang.management.ManagementFactory;

/** That calls make no objects: all those of a run share one small room. */
public final class RoomTest {
    private static final int N = Edges.N;
    private static final int OBJECTS = 500;

    private static final Due DUE = new Due("RoomTest");

    public static void main(String[] args) {
        EvenCurveKeys[] all = new EvenCurveKeys[OBJECTS];
        for (int i = 0; i < OBJECTS; i++) {
            all[i] = new EvenCurveKeys();
        }
        ThreadMXBean threads = (ThreadMXBean) ManagementFactory.getThreadMXBean();
        // Once unmeasured, as the machine itself makes objects when it meets code at first.
        callAll(new EvenCurveKeys(), 1);
        threads.getCurrentThreadAllocatedBytes();
        long before = threads.getCurrentThreadAllocatedBytes();
        for (int i = 0; i < OBJECTS; i++) {
            callAll(all[i], i);
        }
        long made = threads.getCurrentThreadAllocatedBytes() - before;
        // One object for each of these would be 16 bytes at least; asking takes some bytes itself.
        DUE.truth(made + " bytes made", true, () -> made < 8 * OBJECTS);
        DUE.end();
    }

    private static long callAll(EvenCurveKeys keys, int round) {
        long sum = keys.secret(0, 1 + round) + keys.secret(1, N - 1 - round);
        keys.open(2, keys.code(1));
        sum += keys.even(round) + keys.tweak(1, 3, true) + keys.combine(3, 0, 1);
        sum += keys.linear(0, round, N - 1);
        long signature = keys.sign(0, round);
        int r = (int) (signature >>> 32);
        int s = (int) signature;
        sum += keys.good(0, round, r, s) ? 1 : 0;
        sum += keys.recover(4, round, r, s, keys.mark());
        long proof = keys.prove(0, round, 5);
        int rx = (int) (proof >>> 32);
        sum += keys.holds(0, round, rx, (int) proof) ? 1 : 0;
        for (int i = 0; i < 8; i++) {
            sum += keys.bundle(0, round, rx, (int) proof);
        }
        sum += keys.right(round) ? 1 : 0;
        sum += keys.agree(0, 1);
        int length = keys.written(r, s, -1);
        for (int i = 0; i < length; i++) {
            sum += keys.type(keys.written(r, s, i));
        }
        return sum + keys.read();
    }
}
