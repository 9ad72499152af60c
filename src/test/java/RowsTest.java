import java.lang.management.ManagementFactory;

/** No call makes anything new: 512 calls, with sweeps in them, take no memory to speak of. */
public final class RowsTest {
    private static final long FEW_BYTES = 20000;

    public static void main(String[] args) {
        play(new ValueMachine());
        ValueMachine machine = new ValueMachine();
        long before = bytesTaken();
        int sweeps = play(machine);
        long taken = bytesTaken() - before;
        Check.holds("sweeps: " + sweeps, sweeps > 10000);
        Check.holds("bytes taken by 512 calls: " + taken, taken < FEW_BYTES);
        Check.end();
    }

    private static long bytesTaken() {
        com.sun.management.ThreadMXBean threads =
            (com.sun.management.ThreadMXBean) ManagementFactory.getThreadMXBean();
        return threads.getThreadAllocatedBytes(Thread.currentThread().getId());
    }

    private static int play(ValueMachine machine) {
        Programs.add(machine,
            Programs.TRAP, 0, Programs.FUNCTION, 8 * 3, Programs.CALL, 0, Programs.OBJECT, 0, Programs.PUSH, 0,
            Programs.OBJECT, 0, Programs.SET_FIELD, 3, Programs.PUSH, 0, Programs.PUSH, 0, Programs.ARRAY, 2,
            Programs.SET_GLOBAL, 2, Programs.FIELD, 0);
        for (int k = 0; k < 100; k++) {
            machine.run(20000);
            machine.look(2, 2);
            machine.into(0);
            machine.value();
            machine.isSame();
        }
        int sweeps = machine.count(6);
        machine.reset();
        machine.clear();
        return sweeps;
    }
}
