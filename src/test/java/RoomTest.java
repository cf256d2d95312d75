import java.lang.management.ManagementFactory;

/** All calls of a run live in one room: the dearest calls make next to nothing once their rows are made. */
public final class RoomTest {
    private static final long MOST_BYTES = 4_000_000;

    public static void main(String[] args) {
        com.sun.management.ThreadMXBean threads = (com.sun.management.ThreadMXBean) ManagementFactory.getThreadMXBean();
        Check check = new Check();
        check.about("room");
        dear(new RiscMonitor());
        long before = threads.getCurrentThreadAllocatedBytes();
        dear(new RiscMonitor());
        long made = threads.getCurrentThreadAllocatedBytes() - before;
        check.due("more than " + MOST_BYTES + " bytes (" + made + ")", made > MOST_BYTES ? 1 : 0, 0);
        check.end();
    }

    private static void dear(RiscMonitor x) {
        for (int m = 0; m < 3; m++) {
            x.computer(4, 16);
            Check.make(x, m, Check.RAM, "li s0,0x80", "slli s0,s0,24", "a: addi a0,a0,1", "sd a0,512(s0)", "amoadd.w a1,a0,(s0)",
                    "lr.d a2,(s0)", "csrr a3,0x344", "j a");
            x.record(m, true);
        }
        for (int i = 0; i < 24; i++) {
            x.run(i % 3, 2000);
            x.back(i % 3, 500);
            x.picture(i % 3);
            x.restore(2, i % 6);
            x.forget(i % 6);
            x.drop(x.replay(i % 3));
            x.drop(x.move(0));
            x.alike(0, 1);
            x.list(0, Check.RAM, i);
            Check.make(x, 2, Check.RAM + 8192, ".zero 4096", "b: j b");
        }
    }
}
