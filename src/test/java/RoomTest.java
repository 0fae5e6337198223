import com.sun.management.ThreadMXBean;
import java.lang.management.ManagementFactory;

/** All calls of one run live in one room: what an object and its 512 dearest calls make stays far below it. */
public final class RoomTest {
    private static final Check CHECK = new Check();
    private static final ThreadMXBean THREADS = (ThreadMXBean) ManagementFactory.getThreadMXBean();
    private static final long ELEMENT_BYTES = 4;
    private static final long MOST = 200_000 * ELEMENT_BYTES;

    public static void main(String[] args) {
        String text = "day<1 or hour<1 and test<3;".repeat(7) + "not sea<1";
        run(text);
        long before = THREADS.getCurrentThreadAllocatedBytes();
        PoolCoast x = run(text);
        long made = THREADS.getCurrentThreadAllocatedBytes() - before;
        CHECK.due("pools", x.count(3), 11);
        CHECK.due("rules", x.count(4), 10);
        CHECK.due("bytes made by one run are few, " + made, made < MOST, true);
        before = THREADS.getCurrentThreadAllocatedBytes();
        long answers = look(x);
        made = THREADS.getCurrentThreadAllocatedBytes() - before;
        CHECK.due("looks answer", answers != 0, true);
        CHECK.due("bytes made by looks", made / 1000, 0);
        CHECK.finish();
    }

    private static PoolCoast run(String text) {
        PoolCoast x = new PoolCoast();
        for (int p = 0; p < 11; p++) {
            x.pool(10, 0, 100, 50, 1, 1, 40);
            x.suspect(p, 5, 5);
            x.suspect(p, 9, 5);
        }
        for (int r = 0; r < 10; r++) {
            RulesTest.tell(x, text);
            x.lease(r, 5, 0, 99);
        }
        for (int i = 0; i < 50; i++) {
            x.turn(100 * i, i);
            x.wave(i, i);
            x.test(0, 0, i);
            x.pass(200);
            x.pay(i % 10);
        }
        return x;
    }

    private static long look(PoolCoast x) {
        long all = 0;
        int today = x.count(0) / 144;
        for (int i = 0; i < 60; i++) {
            x.set(0, i);
            all += x.hour(i % 11, today * 24 + 200, 0) + x.open(i % 11, today + 3, 2399) + x.due(i % 10, 400);
            all += x.plan(15, today + 2, 6, 3, i) + x.race(i % 11, today + 9, 0, 6, 0, 1200, 500);
            all += x.cause(i % 11) + x.look() + x.closed(i % 11, i, i) + x.sea(i) + x.low(0, i);
        }
        return all;
    }
}
