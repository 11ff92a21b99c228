import com.sun.management.ThreadMXBean;
import java.lang.management.ManagementFactory;

/** All calls of a run live in one room: once an object is made, its calls make nothing more. */
public final class RoomTest {
    private static final Check check = new Check();
    /** Far below one object a call, far above what the machine needs for itself. */
    private static final long SMALL = 4096;

    public static void main(String[] args) {
        if (ManagementFactory.getThreadMXBean() instanceof ThreadMXBean room && room.isThreadAllocatedMemorySupported()) {
            // The first runs load what the machine needs.
            calls(Scene.FULL.make(Scene.CAST));
            calls(Scene.FULL.make(Scene.CAST));
            RainAccount r = Scene.FULL.make(Scene.CAST);
            long before = room.getCurrentThreadAllocatedBytes();
            calls(r);
            long made = room.getCurrentThreadAllocatedBytes() - before;
            check.yes("10 calls of each made " + made + " bytes", made < SMALL);
        }
        check.end();
    }

    /** Ten of each, so that the sum is below 512. */
    private static long calls(RainAccount r) {
        long sum = 0;
        for (int k = 0; k < 10; k++) {
            sum += r.cloud(k, 5, 5) + r.shot(k % 3, k % 8, k, 5) + r.back(1) + r.set(1, k % 10) + r.ofField(k, 0);
            sum += r.ofCloud(k, 11, 1) + r.ofShot(k, 4) + r.fell(k, 11, 0) + r.by(k, 0) + r.yields(k) + r.harvest(-1);
            sum += r.brought(k, -1) + r.due(k, 0) + r.idle(0) + r.idle(1) + r.oneMore(-1, 9, 0) + r.awaited(5, 0);
            sum += r.rests(0, 1, 9, 0) + r.bestWind(0) + r.missed(2, 2, 0) + r.sheet(0, k % 3, 40) + r.put(0, k, k);
            sum += r.cell(0, k, k % 3) + r.copy(2, 0, 3, 0, 8) + r.tell(k) + r.load(k) + r.as(k, 1) + r.lose(0);
            sum += r.trace() + r.fault() + r.many(k);
        }
        return sum + r.plain(Scene.BYTES, 0, 2, 7);
    }
}
