import java.lang.management.ManagementFactory;

/** All calls of a run live in one room: what an object takes, and that calls take nothing more. */
public final class RoomTest {
    private static final Check CHECK = new Check();
    private static final com.sun.management.ThreadMXBean THREADS =
            (com.sun.management.ThreadMXBean) ManagementFactory.getThreadMXBean();
    private static final String FULL = "C20a000022a110022a001122a111122a050522a060622"
            + "t00009t11119t00119t11009t05069t06059t02029t09099";

    public static void main(String[] args) {
        // The first rounds also load classes.
        oneRun();
        oneRun();
        long before = THREADS.getThreadAllocatedBytes(Thread.currentThread().getId());
        ClaimedTasks x = new ClaimedTasks();
        long made = THREADS.getThreadAllocatedBytes(Thread.currentThread().getId()) - before;
        CHECK.isTrue("an object takes " + made + " bytes", made < 60_000);
        CHECK.due("the object is there", x.about(3), 5);
        long taken = oneRun();
        CHECK.isTrue("the calls of a run take " + taken + " bytes", taken < 2_000);
        CHECK.end();
    }

    /** What some 500 of the dearest calls take. */
    private static long oneRun() {
        ClaimedTasks x = Scene.loaded(FULL);
        long before = THREADS.getThreadAllocatedBytes(Thread.currentThread().getId());
        for (int i = 0; i < 19; i++) {
            x.step(1 + i % 3);
            x.setRange(i % 6, i % 23);
            x.put(i % 6, i % 12, i % 11);
            x.toggle(i % 6);
            x.drop(i % 6);
            x.setLifetime(1 + i % 20);
            x.undo();
            x.hops(0, 5);
            x.groups();
            x.rangeNeeded();
            x.conflicts(i % 3);
            x.finishedAfter(8);
            x.knownAfter(i % 8);
            x.wastedIf(i % 23, 99);
            x.worstLoss(99);
            x.bestShare(-1);
            x.runScript(3, 100991009910099L);
            x.simulate(i, 60);
            x.save(i % 2);
            x.restore(i % 2);
            x.errorPosition();
        }
        x.load();
        return THREADS.getThreadAllocatedBytes(Thread.currentThread().getId()) - before;
    }
}
