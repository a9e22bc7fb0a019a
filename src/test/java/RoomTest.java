import java.lang.management.ManagementFactory;

/** All calls of a run live in one room: what an object needs is made with it, and the calls make nothing more. */
public final class RoomTest {
    private static final com.sun.management.ThreadMXBean THREADS = (com.sun.management.ThreadMXBean) ManagementFactory.getThreadMXBean();
    private static final int CALLS = 512;
    private static int answers;

    private static long made() {
        return THREADS.getCurrentThreadAllocatedBytes();
    }

    /** A full house, so that the dearest calls have the most to do. */
    private static CabinetTable house() {
        CabinetTable x = new CabinetTable();
        for (int i = 0; i < 8; i++) {
            x.office();
        }
        for (int i = 0; i < 6; i++) {
            x.table(255, 1 + i, i);
        }
        for (int i = 0; i < 6; i++) {
            for (int j = 0; j < 6; j++) {
                x.pass(i, j, 1);
            }
        }
        for (int i = 0; i < 24; i++) {
            x.paper(i % 5, i % 8, i % 10, i, i);
            x.send(i);
        }
        for (int i = 0; i < 16; i++) {
            PromisesTest.type(x, "need 0 1 if not(by 0 or by 1)and((thing 2)or sum>3)or agreed 1 or by 3 unless by 4 or by 5");
            x.rule(0);
        }
        x.keep();
        return x;
    }

    private static int dear(CabinetTable x, int i) {
        switch (i % 8) {
            case 0: return x.keep();
            case 1: return x.back();
            case 2: return x.check(28);
            case 3: return x.way(5, 0, 1, 0);
            case 4: return x.reckoned();
            case 5: x.feed(0x7461626C, 0x65203020, 0x30202020); return x.rule(0);
            case 6: x.register(0, 1, 24); return x.lay(i % 6, 2, 0);
            default: return x.run(1);
        }
    }

    private static long madeByCalls(CabinetTable x) {
        long before = made();
        for (int i = 0; i < CALLS; i++) {
            answers += dear(x, i);
        }
        return made() - before;
    }

    public static void main(String[] args) {
        madeByCalls(house());
        CabinetTable x = house();
        long before = made();
        CabinetTable fresh = new CabinetTable();
        long object = made() - before;
        answers += fresh.count(0);
        long calls = madeByCalls(x);
        System.out.println("an object takes " + object + " bytes, " + CALLS + " calls " + calls + " (" + (answers == 0 ? "" : "asked") + ")");
        // 7.3 million elements are the room; the object needs some thousands, and the calls none.
        if (object > 200000 || calls > 10000) {
            System.out.println("that is more than is due");
            System.exit(1);
        }
    }
}
