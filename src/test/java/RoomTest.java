import com.sun.management.ThreadMXBean;
import java.lang.management.ManagementFactory;

/** The room of a run: objects are small until they are written, and steps make none, however they end. */
public final class RoomTest {
    private static final ThreadMXBean THREADS = (ThreadMXBean) ManagementFactory.getThreadMXBean();
    private static final long LITTLE = 100_000;

    private RoomTest() {
    }

    public static void main(String[] args) {
        Checks checks = new Checks();
        steps(checks);
        calls(checks);
        newObjects(checks);
        checks.finish();
    }

    /** A guest's illegal word goes to its VS, whose own goes to S, and S goes back to the guest. */
    private static void steps(Checks checks) {
        HyperHost host = new HyperHost();
        host.setControl(Rig.TVEC, 64);
        host.setControl(Rig.VTVEC, 128);
        host.setControl(Rig.HEDELEG, 4);
        host.poke(64, Asm.control(5, 0, Rig.STATUS, 0), Asm.upper(55, 5, 4096), Asm.control(1, 0, Rig.EPC, 5), Asm.SRET,
            0);
        host.poke(128, Asm.store(2, 6, 0, 256), Asm.ECALL, 0, 0, 0);
        host.poke(4096, Asm.load(2, 6, 0, 256), 0, 0, 0, 0);
        host.place(4096, Rig.VU);
        host.run(2000);
        long before = allocated();
        for (int call = 0; call < 400; call++) {
            host.run(2000);
        }
        checks.due("steps make little", allocated() - before < LITTLE ? 1 : 0, 1);
        checks.due("they were done", host.count(2), 401 * 2000);
        checks.due("with traps to S", host.count(4) > 50_000 ? 1 : 0, 1);
        checks.due("with traps to VS", host.count(5) > 50_000 ? 1 : 0, 1);
    }

    private static void calls(Checks checks) {
        HyperHost host = new HyperHost();
        host.poke(4096, 1, 2, 3, 4, 5);
        long before = allocated();
        for (int call = 0; call < 100; call++) {
            host.begin();
            host.poke(4096, 1, 2, 3, 4, 5);
            host.sum(0, 64);
            host.setControl(Rig.SCRATCH, call);
            host.word(-4);
        }
        checks.due("calls make little", allocated() - before < LITTLE ? 1 : 0, 1);
    }

    private static void newObjects(Checks checks) {
        new HyperHost().run(1);
        long before = allocated();
        int modes = 0;
        for (int i = 0; i < 20; i++) {
            modes += new HyperHost().count(0);
        }
        checks.due("new objects are little", allocated() - before < LITTLE ? 1 : 0, 1);
        checks.due("and answer", modes, 20);
    }

    private static long allocated() {
        return THREADS.getThreadAllocatedBytes(Thread.currentThread().getId());
    }
}
