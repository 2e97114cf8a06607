import com.sun.management.ThreadMXBean;
import java.lang.management.ManagementFactory;

/**
 * All calls of one run share a room of 7.3 million fields and elements. A field takes 4 bytes at
 * least, so runs of the dearest calls have to stay well below 29 million bytes.
 */
public final class RoomTest {
    private static final long MOST_BYTES = 8_000_000;
    private static final int CALLS = 512;
    private static final Checks CHECKS = new Checks();
    private static final ThreadMXBean THREADS = (ThreadMXBean) ManagementFactory.getThreadMXBean();

    interface Run {
        void make();
    }

    public static void main(String[] args) {
        within("a run of plans and digests", RoomTest::plans);
        within("a run of exceptions", RoomTest::exceptions);
        within("a run of new objects, each with a target", RoomTest::newObjects);
        CHECKS.end();
    }

    private static void within(String name, Run run) {
        long before = THREADS.getCurrentThreadAllocatedBytes();
        run.make();
        long bytes = THREADS.getCurrentThreadAllocatedBytes() - before;
        CHECKS.judge(bytes < MOST_BYTES, name + " made " + bytes + " bytes");
    }

    private static void plans() {
        SkyPlan x = new SkyPlan();
        x.setLength(900);
        for (int number = 0; number < 20; number++) {
            x.addTarget(number * 70, number * 4, number % 4, 1 + number % 9, 5 + number);
        }
        for (int call = 0; call < CALLS; call += 2) {
            x.setMoon(call, 20, call % 30);
            x.digest();
        }
        for (int night = 0; night < 60; night++) {
            x.observe();
        }
    }

    private static void exceptions() {
        SkyPlan x = new SkyPlan();
        for (int call = 0; call < CALLS; call++) {
            try {
                x.visit(call, call);
                CHECKS.judge(false, "visit(" + call + ", " + call + ") threw nothing");
            } catch (IndexOutOfBoundsException due) {
                CHECKS.judge(true, "");
            }
        }
    }

    private static void newObjects() {
        for (int call = 0; call < CALLS; call += 2) {
            new SkyPlan().addTarget(call, 0, 0, 1, 5);
        }
    }
}
