import com.sun.management.ThreadMXBean;
import java.lang.management.ManagementFactory;

/** All calls of a run share one room: a new object is small, and no call that throws nothing makes an object. */
public final class RoomTest {
    private static final ThreadMXBean THREADS = (ThreadMXBean) ManagementFactory.getThreadMXBean();
    private static long sum;

    public static void main(String[] args) {
        DueWheels[] all = new DueWheels[64];
        long before = taken();
        for (int i = 0; i < all.length; i++) {
            all[i] = new DueWheels();
        }
        long each = (taken() - before) / all.length;
        Check.is("a new object takes " + each + " bytes, at most 10000", each <= 10000, true);
        for (int i = 0; i < 3; i++) {
            calls(all[i]);
        }
        before = taken();
        for (int i = 3; i < all.length; i++) {
            calls(all[i]);
        }
        long made = taken() - before;
        Check.is("calls made " + made + " bytes of objects, at most 1000", made <= 1000, true);
        Check.is("they were done", sum != 0, true);
        Check.close("RoomTest");
    }

    private static long taken() {
        return THREADS.getThreadAllocatedBytes(Thread.currentThread().getId());
    }

    private static void calls(DueWheels x) {
        for (int i = 0; i < 16; i++) {
            sum += x.sets(1 + 7 * i, i % 8, i % 4, 1 + i, i % 3);
        }
        for (int i = 0; i < 8; i++) {
            changes(x, i);
            asks(x, i);
        }
    }

    private static void changes(DueWheels x, int i) {
        sum += x.wheels(2 + i, 3, 4, 0) + x.order(i % 3) + x.ticks(100) + x.leaps(50 - i);
        sum += x.steady(i, true) + x.holds(i) + x.goesOn(i) + x.spreads(0, i) + x.pauses(i) + x.delays(i, 99);
        sum += x.resumes(i) + x.sign(0x73352C30) + x.sign(0x3B74393B) + x.sign(0x6C393B63) + x.sign(0x30300000);
        sum += (x.end(13) ? 1 : 0) + x.run() + x.cancels(9) + x.cancelsAll(7);
    }

    private static void asks(DueWheels x, int i) {
        sum += x.slot(0, i) + x.far() + x.group(i) + x.full(0) + x.next() + x.rings(100) + x.quiet(100) + x.moves(i);
        sum += x.cost(4, 4, i, 0) + x.best(1 + i % 4) + x.ahead(0, i) + x.way(i) + x.would(500) + x.busiest(100);
        sum += x.till(10) + x.loudest(100) + x.clashes(100) + x.rung(i) + x.told(i) + x.count(i);
    }
}
