import java.lang.management.ManagementFactory;

/** The room that a run of calls takes is bounded: rows are made once and used again. */
public final class RoomTest {
    // Far below the room of 7.3 million elements, even if each byte were one.
    private static final long MOST_ALLOCATED = 500000;
    private static final long MOST_FOR_A_NEW_ONE = 12000;

    public static void main(String[] args) {
        Due due = new Due("RoomTest");
        allocated(RoomTest::makeOne);
        long least = allocated(RoomTest::makeOne);
        due.isTrue("a new machine took " + least, least < MOST_FOR_A_NEW_ONE);
        long most = allocated(RoomTest::useOne);
        due.isTrue("the dearest runs took " + most, most < MOST_ALLOCATED);
        due.end();
    }

    private static long allocated(Runnable runs) {
        com.sun.management.ThreadMXBean bean = (com.sun.management.ThreadMXBean) ManagementFactory.getThreadMXBean();
        long before = bean.getThreadAllocatedBytes(Thread.currentThread().getId());
        runs.run();
        return bean.getThreadAllocatedBytes(Thread.currentThread().getId()) - before;
    }

    private static void makeOne() {
        new RvMachine();
    }

    // Makes given objects until there may be no more, and again in the next run.
    private static void useOne() {
        RvMachine m = Asm.begun(Asm.add(Asm.A0, 5, 0), Asm.ECALL, Asm.jal(0, -8));
        for (int i = 0; i < 100; i++) {
            m.begin(0);
            m.set(5, i % 2 == 0 ? 4 : 4000);
            m.set(Asm.A7, 3);
            m.run(10000);
            m.run(10000);
        }
    }
}
