import com.sun.management.ThreadMXBean;
import java.lang.management.ManagementFactory;

/** All calls of a run share one room: an object is small, and a call that answers makes nothing new. */
public final class RoomTest {
    private static final Check CHECK = new Check("RoomTest");
    private static final int CALLS = 512;
    private static final long OBJECT_LIMIT = 40_000;
    private static final long CALLS_LIMIT = 20_000;
    private static final ThreadMXBean BEAN = (ThreadMXBean) ManagementFactory.getThreadMXBean();

    private static long made() {
        return BEAN.getThreadAllocatedBytes(Thread.currentThread().getId());
    }

    private static long dearCalls(PolytopeDescent x) {
        long sum = 0;
        for (int i = 0; i < CALLS / 8; i++) {
            sum += x.errorPosition();
            sum += x.load();
            sum += x.simulate(i, 50);
            sum += x.run(i % 3, 50);
            sum += x.stepsUntil(2, 0);
            sum += x.runScript(4, 1050_1250_1050_1250L);
            sum += x.preview(0, 2) + x.bestAlone() + x.face();
            sum += x.save(0) + x.restore(0);
        }
        return sum;
    }

    public static void main(String[] args) {
        String text = "P4p1379r+1-2+3-4+07r-3+4+1-2-08r+9-9+9-9+99r+1+1+1+1-50";
        dearCalls(Check.loaded(text));
        long before = made();
        PolytopeDescent x = new PolytopeDescent();
        long object = made() - before;
        CHECK.isTrue("an object takes " + object + " bytes", object <= OBJECT_LIMIT);
        Check.type(x, text);
        x.load();
        before = made();
        dearCalls(x);
        long calls = made() - before;
        CHECK.isTrue(CALLS + " dear calls take " + calls + " bytes", calls <= CALLS_LIMIT);
        CHECK.close();
    }
}
