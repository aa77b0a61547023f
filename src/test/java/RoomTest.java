import com.sun.management.ThreadMXBean;
import java.lang.management.ManagementFactory;

/** Objects are made by the constructor alone: what 512 calls make, all of them in one room, is next to nothing. */
final class RoomTest {
    public static void main(String[] args) {
        Checks checks = new Checks();
        ThreadMXBean threads = (ThreadMXBean) ManagementFactory.getThreadMXBean();
        long thread = Thread.currentThread().getId();
        callAll(new PricedPairs());
        long start = threads.getThreadAllocatedBytes(thread);
        PricedPairs pairs = new PricedPairs();
        long made = threads.getThreadAllocatedBytes(thread);
        callAll(pairs);
        long called = threads.getThreadAllocatedBytes(thread);
        checks.due("a new object of " + (made - start) + " bytes is below 20000", made - start < 20000);
        checks.due("calls that make " + (called - made) + " bytes make below 2000", called - made < 2000);
        checks.finish("RoomTest");
    }

    private static void callAll(PricedPairs pairs) {
        for (int i = 0; i < 7; i++) {
            pairs.worker(50 + i);
            pairs.task();
        }
        for (int pair = 0; pair < 49; pair++) {
            pairs.cost(pair / 7, pair % 7, pair * 31 % 83);
        }
        for (int round = 0; round < 20; round++) {
            askAll(pairs, round % 7);
            pairs.dropWorker(round % 7);
            pairs.dropTask(round % 7);
            pairs.undo();
            pairs.undo();
            pairs.times(round % 7, 1);
            pairs.type("1/2;3/4".charAt(round % 7));
            pairs.fault(0);
            pairs.read();
            pairs.undo();
        }
        pairs.clearText();
    }

    private static void askAll(PricedPairs pairs, int number) {
        pairs.costOf(number, number);
        pairs.taskOf(number);
        pairs.workerOf(number);
        pairs.totalFor(number);
        pairs.price(number, 0);
        pairs.workerIs(number, number & 3);
        pairs.proof();
        pairs.pairOf(number, number, 1);
        pairs.room(number);
        pairs.dearest(2);
        pairs.count(number);
        pairs.bar(number, number);
        pairs.idle(number, 3);
    }

    private RoomTest() {
    }
}
