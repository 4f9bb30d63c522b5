import java.lang.management.ManagementFactory;

/** Calls that throw nothing make no objects: all calls of a run share one small room. */
public final class RoomTest {
    private static final int ROUNDS = 200;

    public static void main(String[] args) {
        com.sun.management.ThreadMXBean threads =
                (com.sun.management.ThreadMXBean) ManagementFactory.getThreadMXBean();
        LogBroker[] brokers = new LogBroker[ROUNDS];
        long before = threads.getCurrentThreadAllocatedBytes();
        for (int i = 0; i < ROUNDS; i++) {
            brokers[i] = new LogBroker();
        }
        long made = threads.getCurrentThreadAllocatedBytes();
        int sum = 0;
        for (int i = 0; i < ROUNDS; i++) {
            sum += use(brokers[i]);
        }
        long used = threads.getCurrentThreadAllocatedBytes();
        int answers = sum;
        Check.due("the calls did something", true, () -> answers != 0);
        // some 3,100 elements of four bytes each and their headers
        Check.due("bytes of an object: " + (made - before) / ROUNDS, true, () -> (made - before) / ROUNDS < 24_000);
        Check.due("bytes of a run: " + (used - made) / ROUNDS, true, () -> (used - made) / ROUNDS < 1_000);
        Check.finish("RoomTest");
    }

    private static int use(LogBroker x) {
        int sum = 0;
        for (int i = 0; i < 30; i++) {
            x.add(i, i % 5, i);
            x.add(i, i % 7, -i);
            x.erase(i, i % 3);
            sum += x.produce(i % 3, i % 2 == 0 ? -1 : i % 8, 0);
            x.commit(i % 8, i % 3, x.log(i % 3, 1));
            sum += x.fetch(i % 3, x.log(i % 3, 0), 8) + x.fetched(0, 2);
            sum += x.since(0, i) + x.committed(0, 0) + x.look(4) + x.octet(i, i) + x.known(0, 1, 0) + x.log(2, 4);
            sum += i % 10 == 9 ? x.clean(2, 500) + x.retain(0, 2000) + x.recover() : 0;
        }
        return sum;
    }
}
