/** Term 12, promises 35 to 38: where marks stop, what go() lets aside, and the trace's 32 instructions. */
public final class StopEdgesTest {
    private static final Check CHECK = new Check();
    private static final long RAM = Check.RAM;

    public static void main(String[] args) {
        places();
        storedBytes();
        notStored();
        several();
        asides();
        turns();
        waiting();
        interrupted();
        virtualPlaces();
        guestStores();
        lengths();
        trace();
        traceOfKinds();
        CHECK.end();
    }

    private static void places() {
        CHECK.about("term 12: as a run is about to begin a step (not before)");
        RiscMonitor x = Check.house(1, 1, "nop", "nop", "nop", "nop", "j 0x80000000");
        x.mark(0, 0, RAM + 8);
        CHECK.due("fewer", x.run(0, 3), 2);
        CHECK.due("STOPPED", x.state(0, 0), 2);
        CHECK.due("that step not begun", x.hart(0, 0, 1), RAM + 8);
        CHECK.due("MTIME", x.control(0, 0, 0xc01), 2);
        CHECK.due("not RUNNING", x.run(0, 1), -5);
        x.reset(0);
        CHECK.due("just up to it", x.run(0, 2), 2);
        CHECK.due("RUNNING", x.state(0, 0), 0);
        CHECK.due("at no mark", x.state(0, 8), -1);
        CHECK.due("the next run", x.run(0, 1), 0);
        CHECK.due("STOPPED", x.state(0, 0), 2);
        for (long at : new long[] {RAM + 7, RAM + 9, RAM + 6, RAM + 10, RAM + 8 + (1L << 32), -RAM - 8, 8}) {
            x = Check.house(1, 1, "nop", "nop", "nop", "nop", "j 0x80000000");
            x.mark(0, 0, at);
            CHECK.due("a mark at " + Long.toHexString(at), x.run(0, 20), 20);
        }
        x = Check.house(1, 1, "jr zero");
        x.mark(0, 0, 0);
        CHECK.due("a place that isn't RAM", x.run(0, 5), 1);
        CHECK.due("pc", x.hart(0, 0, 1), 0);
        CHECK.due("nothing was fetched", x.state(0, 7), 0);
        x.go(0);
        CHECK.due("fetch: a mark is no cause", x.run(0, 1), 1);
        CHECK.due("its cause", x.control(0, 0, 0x342), 1);
    }

    private static void storedBytes() {
        CHECK.about("term 12: behind a step in which its hart stored a byte there");
        String[] stores = {"sb a0,8(s0)", "sh a0,8(s0)", "sw a0,8(s0)", "sd a0,8(s0)", "amoadd.w a0,a0,(s1)", "amomax.d a0,zero,(s1)",
                "sc.w a1,a0,(s1)", "sc.d a1,a0,(s1)"};
        int[] sizes = {1, 2, 4, 8, 4, 8, 4, 8};
        for (int i = 0; i < stores.length; i++) {
            for (int at = 7; at <= 16; at++) {
                String hold = stores[i].startsWith("sc.w") ? "lr.w a2,(s1)" : "lr.d a2,(s1)";
                RiscMonitor x = Check.house(1, 2, "la s0,0x80001000", "la s1,0x80001008", hold, stores[i], "nop", "nop");
                CHECK.due("mark", x.mark(0, 1, RAM + 0x1000 + at), 0);
                boolean hit = at >= 8 && at < 8 + sizes[i];
                CHECK.due(stores[i] + ", a mark at +" + at, x.run(0, 7), hit ? 6 : 7);
                CHECK.due("at", x.state(0, 8), hit ? 0 : -1);
                CHECK.due("pc", x.hart(0, 0, 1), hit ? RAM + 24 : RAM + 28);
            }
        }
        RiscMonitor x = Check.house(1, 1, "la s0,0x80000fff", "sb zero,0(s0)", "j 0x80000008");
        x.mark(0, 1, RAM + 0xfff);
        CHECK.due("RAM's last byte, in the last step of a run", x.run(0, 3), 3);
        CHECK.due("STOPPED", x.state(0, 0), 2);
        x.go(0);
        CHECK.due("again", x.run(0, 9), 2);
    }

    private static void notStored() {
        CHECK.about("term 12: itself, not by devices");
        RiscMonitor x = Check.house(1, 2, "la s0,0x80001000", "ld a0,0(s0)", "lr.d a0,(s0)", "sc.w a1,a0,(s0)", "sw a0,1(s0)", "nop");
        x.mark(0, 1, RAM + 0x1000);
        x.mark(0, 1, RAM + 0x1001);
        CHECK.due("loads, an sc that fails, a store that traps", x.run(0, 6), 6);
        x = Check.house(1, 2, "la s0,0x10001000", "la s1,0x80001000", "sd s1,8(s0)", "li a0,1", "sw a0,16(s0)", "la s2,0x10002000",
                "sd s1,8(s2)", "sd a0,16(s2)", "sw a0,24(s2)", "li a0,2", "sw a0,24(s2)", "j 0x80000038");
        x.mark(0, 1, RAM + 0x1000);
        CHECK.due("the disk, the copier", x.run(0, 30), 30);
        x.poke(0, RAM + 0x1000, 1);
        Check.make(x, 0, RAM + 0x1000, "nop");
        CHECK.due("from outside", x.state(0, 0), 0);
        CHECK.due("it runs", x.run(0, 3), 3);
        x = Check.house(1, 1, "la s0,0x10000000", "sb a0,0(s0)", "sb a0,1(s0)", "nop");
        x.mark(0, 1, RAM);
        CHECK.due("a device's register", x.run(0, 5), 5);
    }

    private static void several() {
        CHECK.about("term 12: of several the first mark");
        for (int first = 0; first < 8; first++) {
            RiscMonitor x = Check.house(1, 1, "nop", "nop", "la s0,0x80000ff8", "sd s0,0(s0)", "nop");
            for (int k = 0; k < 8; k++) {
                CHECK.due("mark", x.mark(0, k % 2, k % 2 == 0 ? RAM + 4 : RAM + 0xff8 + k), k);
            }
            for (int k = 0; k < first; k++) {
                x.unmark(0, k);
            }
            boolean place = first < 7;
            CHECK.due("run", x.run(0, 9), place ? 1 : 5);
            CHECK.due("the first mark", x.state(0, 8), place ? first + first % 2 : 7);
            x.go(0);
            if (place) {
                CHECK.due("run", x.run(0, 9), 4);
                CHECK.due("the first mark", x.state(0, 8), first + 1 - first % 2);
            }
        }
        RiscMonitor x = Check.house(1, 1, "la s0,0x80000ff8", "sd s0,0(s0)", "nop");
        x.mark(0, 0, RAM + 12);
        x.mark(0, 1, RAM + 0xff8);
        CHECK.due("behind the step first", x.run(0, 9), 3);
        CHECK.due("the store's", x.state(0, 8), 1);
        x.go(0);
        CHECK.due("go() lets the other aside", x.run(0, 1), 1);
        CHECK.due("RUNNING", x.state(0, 0), 0);
    }

    private static void asides() {
        CHECK.about("promise 37: marks of pc aside for the step to come");
        RiscMonitor x = Check.house(1, 1, "j 0x80000000");
        x.mark(0, 0, RAM);
        x.run(0, 5);
        for (int i = 0; i < 3; i++) {
            CHECK.due("go", x.go(0), 1);
            CHECK.due("go again", x.go(0), -5);
            CHECK.due("one step", x.run(0, 5), 1);
            CHECK.due("STOPPED", x.state(0, 0), 2);
        }
        x.go(0);
        CHECK.due("a run of one step", x.run(0, 1), 1);
        CHECK.due("RUNNING", x.state(0, 0), 0);
        CHECK.due("not aside any more", x.run(0, 1), 0);
        x.go(0);
        CHECK.due("a run that is refused leaves it", x.run(0, 0), -4);
        CHECK.due("aside still", x.run(0, 1), 1);
        x.run(0, 1);
        x.unmark(0, 0);
        CHECK.due("STOPPED still", x.state(0, 0), 2);
        CHECK.due("by its number", x.state(0, 8), 0);
        x.go(0);
        CHECK.due("no mark any more", x.run(0, 9), 9);
        x.record(0, true);
        x.mark(0, 0, RAM);
        x.run(0, 1);
        x.go(0);
        x.back(0, 0);
        CHECK.due("BACK ahead of the step", x.run(0, 9), 0);
        x.back(0, 0);
        CHECK.due("RUNNING", x.state(0, 0), 0);
        CHECK.due("it stops again", x.run(0, 9), 0);
        x.reset(0);
        CHECK.due("RUNNING by reset", x.state(0, 0), 0);
        CHECK.due("at no mark", x.state(0, 8), -1);
    }

    private static void turns() {
        CHECK.about("term 12: the hart whose turn it is");
        RiscMonitor x = Check.house(3, 1, "nop", "nop", "j 0x80000004");
        x.mark(0, 0, RAM + 4);
        CHECK.due("three harts come there", x.run(0, 9), 3);
        CHECK.due("turn", x.state(0, 4), 0);
        for (int h = 1; h <= 3; h++) {
            x.go(0);
            CHECK.due("one step", x.run(0, 9), h < 3 ? 1 : 4);
            CHECK.due("turn", x.state(0, 4), h % 3);
        }
    }

    private static void waiting() {
        CHECK.about("term 12: doesn't wait");
        RiscMonitor x = Stage.in(3, false, "wfi\nnop\nnop", 0x304, 0x80);
        x.mark(0, 0, Stage.CODE + 4);
        CHECK.due("it waits there", x.run(0, 5), 5);
        x.time(0, -2);
        CHECK.due("it waits still as the step is about to begin", x.run(0, 1), 1);
        CHECK.due("it is past it", x.hart(0, 0, 1), Stage.CODE + 8);
    }

    private static void interrupted() {
        CHECK.about("term 12: that step not begun");
        RiscMonitor x = Stage.in(1, false, "nop\nnop\nnop", 0x304, 0x80);
        x.mark(0, 0, Stage.CODE + 4);
        x.mark(0, 0, Stage.HANDLER);
        x.run(0, 1);
        x.time(0, -2);
        CHECK.due("ahead of an interrupt", x.run(0, 1), 0);
        CHECK.due("STOPPED", x.state(0, 8), 0);
        x.go(0);
        CHECK.due("the trap is the step", x.run(0, 5), 1);
        CHECK.due("at the handler", x.state(0, 8), 1);
    }

    /** In S with great pages: virtual 0x40000000 and 0x80000000 are both RAM. */
    private static void virtualPlaces() {
        CHECK.about("term 12: a virtual place, a physical place of RAM");
        RiscMonitor x = Stage.in(1, false, "la s1,0x40001000\nla t0,0x40000820\njr t0\n.align 5\nsd sp,0(s1)\nnop\nnop", 0x180,
                8L << 60 | (RAM >>> 12) + 4);
        long leaf = RAM >>> 12 << 10 | 0xcf;
        Check.make(x, 0, RAM + 4 * 4096, ".zero 8", ".dword " + leaf + "," + leaf);
        CHECK.due("a physical place of pc", x.mark(0, 0, RAM + 0x820), 0);
        CHECK.due("a virtual one", x.mark(0, 0, 0x40000824L), 1);
        CHECK.due("a virtual place of RAM", x.mark(0, 1, 0x40001000L), -4);
        CHECK.due("a physical one", x.mark(0, 1, RAM + 0x1000), 2);
        CHECK.due("up to the store", x.run(0, 9), 6);
        CHECK.due("behind it", x.state(0, 8), 2);
        CHECK.due("pc is virtual", x.hart(0, 0, 1), 0x40000824L);
        CHECK.due("unmark", x.unmark(0, 2), 1);
        x.reset(0);
        CHECK.due("reset", x.hart(0, 0, 0), 3);
        x = Stage.in(1, false, "la s1,0x40001000\nla t0,0x40000820\njr t0\n.align 5\nsd sp,0(s1)\nnop\nnop", 0x180, 8L << 60 | (RAM >>> 12) + 4);
        Check.make(x, 0, RAM + 4 * 4096, ".zero 8", ".dword " + leaf + "," + leaf);
        x.mark(0, 0, RAM + 0x820);
        x.mark(0, 0, 0x40000824L);
        CHECK.due("up to the virtual place", x.run(0, 9), 6);
        CHECK.due("there", x.state(0, 8), 1);
    }

    private static void guestStores() {
        CHECK.about("term 12: hsv");
        RiscMonitor x = Stage.in(3, false, "la s1,0x80001008\nhsv.w a0,(s1)\nnop\nnop");
        x.mark(0, 1, RAM + 0x100b);
        x.mark(0, 1, RAM + 0x100c);
        CHECK.due("its last byte", x.run(0, 5), 3);
        CHECK.due("at", x.state(0, 8), 0);
    }

    private static void lengths() {
        CHECK.about("term 12: a run of 1 .. 2000 steps");
        RiscMonitor x = Check.house(1, 1, "li a0,667", "a: addi a0,a0,-1", "bnez a0,a", "nop", "j 0x8000000c");
        x.mark(0, 0, RAM + 16);
        CHECK.due("1,336 steps", x.run(0, 2000), 1336);
        x.unmark(0, 0);
        x.reset(0);
        x.mark(0, 0, RAM + 12);
        CHECK.due("1,335 of them", x.run(0, 1335), 1335);
        CHECK.due("RUNNING", x.state(0, 0), 0);
        CHECK.due("none", x.run(0, 2000), 0);
    }

    private static void trace() {
        CHECK.about("promise 38: the latest 32");
        RiscMonitor x = Check.house(2, 1, "addi a0,a0,1", "j 0x80000000");
        for (int n = 1; n <= 35; n++) {
            x.run(0, 1);
            CHECK.due("the oldest of " + n, x.trace(0, Math.min(n, 32) - 1, 0), n <= 32 ? 0 : (n - 32) % 2);
            CHECK.due("no more", x.trace(0, Math.min(n, 32), 0), -1);
            CHECK.due("the latest", x.trace(0, 0, 0), (n - 1) % 2);
        }
        for (int what : new int[] {-1, 4, Integer.MAX_VALUE, Integer.MIN_VALUE}) {
            CHECK.due("others", x.trace(0, 0, what), -1);
        }
        for (int i : new int[] {-1, 32, Integer.MAX_VALUE, Integer.MIN_VALUE}) {
            CHECK.due("none such", x.trace(0, i, 0), -1);
        }
        for (int i = 0; i < 32; i++) {
            int step = 34 - i;
            CHECK.due("pc of step " + step, x.trace(0, i, 1), RAM + step / 2 % 2 * 4);
            CHECK.due("bits", x.trace(0, i, 2), step / 2 % 2 == 0 ? 0x00150513 : 0xffdff06fL);
            CHECK.due("cause", x.trace(0, i, 3), -1);
        }
    }

    private static void traceOfKinds() {
        CHECK.about("term 12: done or trapped (interrupts are none)");
        RiscMonitor x = Check.house(1, 1, ".half 0x4505", ".half 0", ".half 0");
        x.run(0, 3);
        CHECK.due("16 bits", x.trace(0, 2, 2), 0x4505);
        CHECK.due("done", x.trace(0, 2, 3), -1);
        CHECK.due("illegal", x.trace(0, 1, 3), 2);
        CHECK.due("its bits", x.trace(0, 1, 2), 0);
        CHECK.due("not fetched", x.trace(0, 0, 3), 1);
        CHECK.due("its bits", x.trace(0, 0, 2), 0);
        CHECK.due("its pc", x.trace(0, 0, 1), 0);
        x = Stage.in(1, false, "nop", 0x304, 2, 0x344, 2);
        x.run(0, 1);
        CHECK.due("an interrupt", Stage.cause(x), Long.MIN_VALUE + 1);
        CHECK.due("is none", x.trace(0, 0, 2), 0x30200073);
        CHECK.due("it counts as a trap", x.state(0, 7), 1);
        x = Check.house(1, 1, "la s0,0x10003000", "li a0,1", "sd a0,0(s0)");
        x.run(0, 5);
        CHECK.due("a RESET by the DOG", x.hart(0, 0, 1), RAM);
        CHECK.due("is none", x.trace(0, 0, 1), RAM + 12);
        x.reset(0);
        CHECK.due("it stays behind a reset", x.trace(0, 0, 1), RAM + 12);
        x = Check.house(1, 1, "lw a0,1(zero)", "nop");
        x.run(0, 1);
        CHECK.due("trapped", x.trace(0, 0, 3), 4);
        CHECK.due("its bits", x.trace(0, 0, 2), 0x00102503);
    }
}
