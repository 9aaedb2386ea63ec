import com.sun.management.ThreadMXBean;
import java.lang.management.ManagementFactory;

/** Counts what is made: rows are made with the object and used again, so that a call makes nothing. */
public final class RoomTest {
    private static final ThreadMXBean THREADS = (ThreadMXBean) ManagementFactory.getThreadMXBean();
    private static final long BYTES_OF_ONE = 40_000;

    private static long made() {
        return THREADS.getThreadAllocatedBytes(Thread.currentThread().getId());
    }

    public static void main(String[] args) {
        Check check = new Check();
        everyCall(new SleepyHelm());
        made();

        long ahead = made();
        SleepyHelm x = new SleepyHelm();
        long behind = made();
        check.holds("one object takes " + (behind - ahead) + " bytes", behind - ahead <= BYTES_OF_ONE);

        ahead = made();
        for (int k = 0; k < 100; k++) {
            everyCall(x);
        }
        behind = made();
        check.holds("100 times every call make " + (behind - ahead) + " bytes", behind - ahead < 100);
        check.end();
    }

    private static long everyCall(SleepyHelm x) {
        long sum = x.ship() + x.rock(9) + x.rock(9) + x.clear() + x.type('s') + x.type('h') + x.type('i') + x.type('p');
        sum += x.read() + x.type(';') + x.read();
        for (int h = 0; h < 7; h++) {
            sum += x.hand(3, 40 - h, h - 3);
        }
        sum += x.feed(0) + x.feed(1) + x.watch() + x.undo() + x.of(0, 4) + x.of(9, 9) + x.now(2);
        sum += x.then(60, 0) + x.strikes() + x.peas(60, 4, -1) + x.peas(0, 4, 0) + x.canNot(0) + x.eat(0, 1);
        sum += x.seen(20, 0) + x.nod(0) + x.is(0) + x.look(0) + x.pulled(1) + x.forget() + x.meet(60, 3, 1);
        sum += x.odds(0, 3) + x.voyages(7, 60) + x.part(0) + x.image(0) + x.image(1) + x.from(0) + x.status(0);
        for (int w = 0; w < 10; w++) {
            sum += x.watch();
        }
        return sum + x.count(0) + x.digest();
    }
}
