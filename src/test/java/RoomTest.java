import com.sun.management.ThreadMXBean;
import java.lang.management.ManagementFactory;

/** The room of a run: objects are small until they are written, and steps make none, however they end. */
public final class RoomTest {
    private static final ThreadMXBean THREADS = (ThreadMXBean) ManagementFactory.getThreadMXBean();
    private static final long LITTLE = 100_000;

    public static void main(String[] args) {
        Checks checks = new Checks();
        Rig rig = new Rig().control(Rig.TVEC, 64).control(Rig.HEDELEG, 4).control(Rig.HSTATUS, 1 << 7);
        rig.words(64, Asm.SRET).control(Rig.EPC, 4096).words(4096, Asm.store(2, 5, 0, 128), 0).place(4096, Rig.U);
        rig.host.run(2000);
        long before = allocated();
        for (int call = 0; call < 400; call++) {
            rig.host.run(2000);
        }
        checks.due("steps make little", allocated() - before < LITTLE ? 1 : 0, 1);
        checks.due("and were done", rig.host.count(2), 401 * 2000);

        before = allocated();
        for (int call = 0; call < 400; call++) {
            rig.host.begin();
            rig.host.poke(4096, 1, 2, 3, 4, 5);
            rig.host.sum(0, 64);
        }
        checks.due("calls make little", allocated() - before < LITTLE ? 1 : 0, 1);

        before = allocated();
        HyperHost host = new HyperHost();
        checks.due("a new object is little", allocated() - before < LITTLE ? 1 : 0, 1);
        checks.due("and answers", host.count(0), 1);
        checks.finish();
    }

    private static long allocated() {
        return THREADS.getThreadAllocatedBytes(Thread.currentThread().getId());
    }
}
