import java.lang.management.ManagementFactory;

/** The room: an object is small, and its calls make no further objects. */
public final class RoomTest {
    /** The sixteen calls of a round, and setBase: just below 512. */
    private static final int ROUNDS = 31;
    /** Bytes of a new object, and of all the calls on it; a hundredth of the room is some 600,000. */
    private static final long MOST_NEW = 40000;
    private static final long MOST_CALLED = 20000;

    private static final com.sun.management.ThreadMXBean THREADS =
            (com.sun.management.ThreadMXBean) ManagementFactory.getThreadMXBean();

    private static long callsOf(NumerationSystems x) {
        long sum = 0;
        for (int i = 0; i < ROUNDS; i++) {
            sum += x.digit(0, i, 7, 1000000000) + x.numerator(1, -100000 + i, 59, 1000000000) + x.length(0, i, 1);
            sum += x.cycle(0, 0, 1) + x.leadsTo(1, i) + x.expansions(0, i, 12) + x.expansionDigit(1, i, 12, 0, 11);
            sum += x.shortest(1, i) + x.load(0, i, 0) + x.add(0, 0, 0, 1) + x.multiply(1, 0, 3, 2) + x.convert(0, 0, 2);
            sum += x.compare(0, 0, 1, 1) + x.value(1, 0, true) + x.carryCount(1) + x.carry(0, i);
        }
        return sum;
    }

    private static long allocated() {
        return THREADS.getThreadAllocatedBytes(Thread.currentThread().getId());
    }

    public static void main(String[] args) {
        callsOf(new NumerationSystems());
        allocated();
        long before = allocated();
        NumerationSystems x = new NumerationSystems();
        long between = allocated();
        x.setBase(1, 10, 9);
        callsOf(x);
        long after = allocated();
        Check.holds("a new object takes " + (between - before) + " bytes", between - before <= MOST_NEW);
        Check.holds("its calls take " + (after - between) + " bytes", after - between <= MOST_CALLED);
        Check.finish("RoomTest");
    }
}
