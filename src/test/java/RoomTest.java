import java.lang.management.ManagementFactory;

/** What the dearest runs of 512 calls allocate: it must fit in a room of 7.3 million elements. */
public final class RoomTest {
    /** Elements are ints of four bytes here; the room is taken for all that is made, collected by Java or not. */
    private static final long ROOM = 7_300_000L * 4;
    /** The row of words is doubled as it is needed: a large limit alone takes no room. */
    private static final long LITTLE = 300_000L * 4;
    private static int wrong = 0;

    private interface Run {
        void run(OwnMemory m);
    }

    private static long allocated() {
        com.sun.management.ThreadMXBean bean = (com.sun.management.ThreadMXBean) ManagementFactory.getThreadMXBean();
        return bean.getThreadAllocatedBytes(Thread.currentThread().getId());
    }

    private static void measure(String what, long most, Run run) {
        run.run(new OwnMemory(1_048_576));
        long before = allocated();
        run.run(new OwnMemory(1_048_576));
        long bytes = allocated() - before;
        System.out.println(what + ": " + bytes / 4 + " elements' room");
        if (bytes > most) {
            wrong++;
            System.out.println(what + " takes more than " + most / 4);
        }
    }

    private static void longText(OwnMemory m) {
        m.text(0, 0x0001000200030004L, 4);
        for (int i = 0; i < 9; i++) {
            m.join(0, 0, 0);
        }
        m.part(1, 0, 0, 1952);
        m.join(0, 0, 1);
    }

    /** All parts are kept, so that the row of words grows as far as it can. */
    private static void keepAll(OwnMemory m) {
        longText(m);
        for (int i = 0; i < 29; i++) {
            m.take(2, 8, 0, 0);
            m.tie(2, 0, 3);
            m.copy(3, 2);
            for (int k = 1; k < 8; k++) {
                m.part(4, 0, 0, 4000);
                m.tie(2, k, 4);
            }
        }
        if (m.collect() < 29 * 7 * 2004) {
            wrong++;
            System.out.println("not all is kept");
        }
    }

    private static void keepNothing(OwnMemory m) {
        longText(m);
        m.stress(1);
        for (int i = 0; i < 490; i++) {
            m.part(1, 0, i, 4000);
        }
    }

    private static void manyNames(OwnMemory m) {
        for (int i = 0; i < 85; i++) {
            m.text(0, i, 1);
            m.name(1, 0);
            m.take(2, 2, 0, 0);
            m.tie(2, 0, 1);
            m.tie(2, 1, 3);
            m.copy(3, 2);
        }
    }

    private static void onlyRefused(OwnMemory m) {
        for (int i = 0; i < 512; i++) {
            try {
                m.unit(i, -1);
                wrong++;
            } catch (IllegalArgumentException e) {
                continue;
            }
        }
    }

    public static void main(String[] args) {
        measure("keeping all", ROOM / 2, RoomTest::keepAll);
        measure("keeping nothing", LITTLE, RoomTest::keepNothing);
        measure("many names", LITTLE, RoomTest::manyNames);
        measure("only refused calls", LITTLE, RoomTest::onlyRefused);
        if (wrong != 0) {
            System.exit(1);
        }
    }
}
