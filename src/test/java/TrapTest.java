/** Term 4: traps, interrupts and returns, of each mode, with each delegation. */
public final class TrapTest {
    private static final Check CHECK = new Check();
    private static final int[] MODES = {0, 1, 3, 4, 5};
    private static final int MSTATUS = 0x300;
    private static final int HSTATUS = 0x600;
    private static final int VSSTATUS = 0x200;
    private static final long LEAST = Long.MIN_VALUE;

    public static void main(String[] args) {
        exceptions();
        firstCauses();
        interruptTargets();
        interruptOrder();
        machineInterrupts();
        vectors();
        machineReturns();
        lowerReturns();
        endsOfReservations();
        CHECK.end();
    }

    private static long with(long number, int bit, boolean on) {
        return on ? number | 1L << bit : number & ~(1L << bit);
    }

    private static boolean has(long number, int bit) {
        return (number >>> bit & 1) != 0;
    }

    /** Lines that trap in their first step but those that jump, with causes and values; of ecall -1: by the mode. */
    private static void exceptions() {
        String[] lines = {"ebreak", ".word 0xffffffff", "lw a0,1(zero)", "lw a0,8(zero)", "sw a0,1(zero)", "sw a0,8(zero)", "ecall",
                "jr zero", ".half 0x8002", "hlv.b a0,(zero)"};
        int[] causes = {3, 2, 4, 5, 6, 7, -1, 1, 2, 22};
        long[] values = {Stage.CODE, 0xffffffffL, 1, 8, 1, 8, 0, 0, 0x8002, 0x60004573};
        for (int i = 0; i < lines.length; i++) {
            for (int mode : MODES) {
                int cause = causes[i] >= 0 ? causes[i] : mode == 5 ? 10 : 8 + (mode & 3);
                if (cause == 22 && mode < 4) {
                    continue;
                }
                for (int rights = 0; rights < 4; rights++) {
                    exception(lines[i], mode, cause, values[i], rights, false);
                    exception(lines[i], mode, cause, values[i], rights, true);
                }
            }
        }
    }

    /** Rights: 1 medeleg has the cause, 2 hedeleg; the state ahead has many bits set, or none. */
    private static void exception(String line, int mode, int cause, long value, int rights, boolean full) {
        long bit = 1L << cause;
        boolean fetch = cause == 1;
        RiscMonitor x = Stage.in(mode & 3, mode >= 4, line, 0x302, (rights & 1) != 0 ? bit : ~bit, 0x602, (rights & 2) != 0 ? bit : ~bit,
                MSTATUS, full ? 0x4000000122L | (mode == 3 ? 0x88 : 0x80) : 0, HSTATUS, full ? 0x1c0 : 0, VSSTATUS, full ? 0x122 : 0,
                        0x34b, 7, 0x34a, 7, 0x643, 7, 0x64a, 7);
        if (fetch) {
            x.run(0, 1);
        }
        long machine = x.control(0, 0, MSTATUS);
        long host = x.control(0, 0, HSTATUS);
        long guest = x.control(0, 0, VSSTATUS);
        boolean v = mode >= 4;
        boolean lower = mode != 3 && (rights & 1) != 0 && cause != 11;
        boolean toGuest = lower && v && (rights & 2) != 0 && (0xb1ff >>> cause & 1) != 0;
        boolean gva = v && (cause == 1 || cause >= 3 && cause <= 7);
        CHECK.about("term 4: '" + line + "' in mode " + mode + ", rights " + rights + (full ? ", bits set" : ""));
        x.run(0, 1);
        int base = toGuest ? 0x241 : lower ? 0x141 : 0x341;
        CHECK.due("pc", x.hart(0, 0, 1), toGuest ? Stage.VS_HANDLER : lower ? Stage.S_HANDLER : Stage.HANDLER);
        CHECK.due("mode", x.hart(0, 0, 0), toGuest ? 5 : lower ? 1 : 3);
        CHECK.due("epc", x.control(0, 0, base), fetch ? 0 : Stage.CODE);
        CHECK.due("cause", x.control(0, 0, base + 1), cause);
        CHECK.due("value", x.control(0, 0, base + 2), value);
        if (toGuest) {
            guest = entered(guest, mode);
        } else if (lower) {
            machine = entered(machine, mode);
            host = with(with(host, 7, v), 6, gva);
            host = v ? with(host, 8, mode == 5) : host;
        } else {
            machine = with(with(with(machine, 7, has(machine, 3)), 3, false), 39, v);
            machine = with(machine, 38, gva) & ~(3L << 11) | (long) (mode & 3) << 11;
        }
        CHECK.due("mstatus", x.control(0, 0, MSTATUS), machine);
        CHECK.due("hstatus", x.control(0, 0, HSTATUS), host);
        CHECK.due("vsstatus", x.control(0, 0, VSSTATUS), guest);
        CHECK.due("mtval2, mtinst", x.control(0, 0, 0x34b) + x.control(0, 0, 0x34a), lower ? 14 : 0);
        CHECK.due("htval, htinst", x.control(0, 0, 0x643) + x.control(0, 0, 0x64a), lower && !toGuest ? 0 : 14);
        CHECK.due("traced", x.trace(0, 0, 3), cause);
    }

    /** SPP, SPIE and SIE behind a trap to S or VS. */
    private static long entered(long status, int mode) {
        return with(with(with(status, 8, (mode & 3) != 0), 5, has(status, 1)), 1, false);
    }

    private static void firstCauses() {
        CHECK.about("term 4: of one instruction the first cause");
        // A word whose first half is RAM's last one: the second half fails.
        RiscMonitor x = Check.house(1, 1, "la t0,0x80000ffe", "jr t0", ".align 11", ".zero 2046", ".half 3");
        x.run(0, 4);
        CHECK.due("fetch: of the half word that failed", x.control(0, 0, 0x343), Check.RAM + 4096);
        CHECK.due("mepc", x.control(0, 0, 0x341), Check.RAM + 4094);
        CHECK.due("cause", x.control(0, 0, 0x342), 1);
        x = Check.house(1, 1, "la t0,0x80000ffe", "jr t0", ".align 11", ".zero 2046", ".half 0x9002");
        x.run(0, 4);
        CHECK.due("16 bits at the end are fetched", x.control(0, 0, 0x342), 3);
        CHECK.due("not aligned is ahead of an access fault", Stage.cause(Stage.ran(1, 3, false, "ld a0,4(zero)")), 4);
        CHECK.due("of amo", Stage.cause(Stage.ran(1, 3, false, "amoadd.d a0,a0,(sp)", 0x300, 0)), 7);
        CHECK.due("lr not aligned", Stage.cause(Stage.ran(2, 3, false, "li sp,1\nlr.w a0,(sp)")), 4);
        CHECK.due("lr", Stage.cause(Stage.ran(1, 3, false, "lr.w a0,(zero)")), 5);
        CHECK.due("sc not aligned", Stage.cause(Stage.ran(2, 3, false, "li sp,2\nsc.w a0,a0,(sp)")), 6);
        CHECK.due("sc", Stage.cause(Stage.ran(1, 3, false, "sc.w a0,a0,(zero)")), 7);
        CHECK.due("amo not aligned", Stage.cause(Stage.ran(2, 3, false, "li sp,4\namoor.d a0,a0,(sp)")), 6);
        String[] loads = {"lb", "lh", "lw", "ld", "lbu", "lhu", "lwu", "sb", "sh", "sw", "sd"};
        int[] sizes = {1, 2, 4, 8, 1, 2, 4, 1, 2, 4, 8};
        for (int i = 0; i < loads.length; i++) {
            for (int at = 0; at <= 8; at++) {
                x = Stage.ran(3, 3, false, "la t0,0x80001000\n" + loads[i] + " a0," + at + "(t0)");
                CHECK.due(loads[i] + " at +" + at, Stage.cause(x), at % sizes[i] == 0 ? 0 : i < 7 ? 4 : 6);
            }
        }
    }

    /** Pending and enabled is one that can be written: 1, 5, 9 by mip, 2, 6, 10 by hvip. */
    private static void interruptTargets() {
        int[] numbers = {1, 2, 5, 6, 9, 10};
        for (int n : numbers) {
            for (int mode : new int[] {0, 1, 4, 5}) {
                for (int set = 0; set < 16; set++) {
                    interrupt(n, mode, set);
                }
            }
        }
    }

    /** Set: 1 mideleg has it, 2 hideleg, 4 SIE, 8 vsstatus' SIE. */
    private static void interrupt(int n, int mode, int set) {
        long bit = 1L << n;
        boolean own = (0x444 >>> n & 1) != 0;
        boolean v = mode >= 4;
        RiscMonitor x = Stage.in(mode & 3, v, "nop\nnop", 0x303, (set & 1) != 0 ? bit : ~bit, 0x603, (set & 2) != 0 ? bit : ~bit,
                0x304, bit, own ? 0x645 : 0x344, bit, MSTATUS, (set & 4) != 0 ? 2 : 0, VSSTATUS, (set & 8) != 0 ? 2 : 0);
        CHECK.about("term 4: interrupt " + n + " in mode " + mode + ", set " + set);
        boolean lower = own || (set & 1) != 0;
        boolean toGuest = own && (set & 2) != 0;
        boolean due = !lower || (toGuest ? v && (mode == 4 || (set & 8) != 0) : v || mode == 0 || (set & 4) != 0);
        x.run(0, 1);
        long target = !lower ? Stage.HANDLER : toGuest ? Stage.VS_HANDLER : Stage.S_HANDLER;
        CHECK.due("pc", x.hart(0, 0, 1), due ? target : Stage.CODE + 4);
        if (due) {
            int base = !lower ? 0x341 : toGuest ? 0x241 : 0x141;
            CHECK.due("epc", x.control(0, 0, base), Stage.CODE);
            CHECK.due("cause", x.control(0, 0, base + 1), LEAST | (toGuest ? n - 1 : n));
            CHECK.due("value", x.control(0, 0, base + 2), 0);
            CHECK.due("mode", x.hart(0, 0, 0), !lower ? 3 : toGuest ? 5 : 1);
        }
    }

    private static void interruptOrder() {
        CHECK.about("term 4: the first of 11, 3, 7, 9, 1, 5, 10, 2, 6");
        int[] inS = {9, 1, 5, 10, 2, 6};
        long enabled = 0x666;
        for (int n : inS) {
            RiscMonitor x = Stage.ran(1, 0, false, "nop", 0x303, -1, 0x344, -1, 0x645, -1, 0x304, enabled);
            CHECK.due("to S, enabled " + Long.toHexString(enabled), x.control(0, 0, 0x142), LEAST | n);
            enabled &= ~(1L << n);
        }
        enabled = 0x444;
        for (int n : new int[] {10, 2, 6}) {
            RiscMonitor x = Stage.ran(1, 0, true, "nop", 0x603, -1, 0x645, -1, 0x304, enabled);
            CHECK.due("to VS, enabled " + Long.toHexString(enabled), x.control(0, 0, 0x242), LEAST | n - 1);
            enabled &= ~(1L << n);
        }
        RiscMonitor x = Stage.ran(1, 0, true, "nop", 0x303, 0x200, 0x603, 0x40, 0x344, 0x222, 0x645, -1, 0x304, -1);
        CHECK.due("M's first", x.control(0, 0, 0x342), LEAST | 1);
        x = Stage.ran(1, 0, true, "nop", 0x303, 0x222, 0x603, 0x40, 0x344, 0x220, 0x645, -1, 0x304, 0x460);
        CHECK.due("then S's", x.control(0, 0, 0x142), LEAST | 5);
        x = Stage.ran(1, 0, true, "nop", 0x303, 0x222, 0x603, 0x40, 0x645, -1, 0x304, 0x40);
        CHECK.due("then VS's", x.control(0, 0, 0x242), LEAST | 5);
        x = Stage.ran(1, 1, true, "nop", 0x603, 0x444, 0x645, -1, 0x304, -1, 0x303, 0x222, 0x344, 0x222, VSSTATUS, 2);
        CHECK.due("S's ahead of VS's, though 9 has come", x.control(0, 0, 0x142), LEAST | 9);
    }

    /** In M: 11 by the controller, 3 by the gate, 7 by MTIMECMP, 9, 1, 5 by mip; those of mideleg never come there. */
    private static void machineInterrupts() {
        CHECK.about("term 4: interrupts in M");
        String devices = "li s0,0xc000010\nli a0,1\nsw a0,0(s0)\nli s0,0xc002000\nli a1,16\nsw a1,0(s0)\n"
                + "li s0,0x2000000\nsw a0,0(s0)\nli s0,0x2004000\nsd zero,0(s0)\n";
        long enabled = 0xaaa;
        for (int n : new int[] {11, 3, 7, 9, 1, 5}) {
            RiscMonitor x = Stage.in(3, false, devices + "csrrsi zero,0x300,8\nnop", 0x344, -1, 0x645, -1, 0x304, enabled);
            x.wire(0, 4, true);
            x.run(0, 14);
            CHECK.due("not without MIE", x.hart(0, 0, 1), Stage.CODE + 56);
            CHECK.due("mip", x.control(0, 0, 0x344), 0xeee);
            x.run(0, 1);
            CHECK.due("MIE is set, nothing yet", x.hart(0, 0, 1), Stage.CODE + 60);
            x.run(0, 1);
            CHECK.due("enabled " + Long.toHexString(enabled), x.control(0, 0, 0x342), LEAST | n);
            CHECK.due("pc", x.hart(0, 0, 1), Stage.HANDLER);
            CHECK.due("MPIE, MPP", x.control(0, 0, MSTATUS) & 0x1888, 0x1880);
            enabled &= ~(1L << n);
        }
        RiscMonitor x = Stage.in(3, false, "csrrsi zero,0x300,10\nnop", 0x344, -1, 0x645, -1, 0x303, -1, 0x603, 4, 0x304, -1);
        x.run(0, 2);
        CHECK.due("S's and VS's never in M", x.hart(0, 0, 1), Stage.CODE + 8);
        x = Stage.in(1, false, "ebreak", 0x302, 8, 0x304, 0x80);
        x.run(0, 1);
        CHECK.due("a trap of an instruction", x.state(0, 7), 1);
        x.time(0, -2);
        x.run(0, 1);
        CHECK.due("and one of an interrupt", x.state(0, 7), 2);
        x = Stage.in(1, false, "nop\nnop", 0x304, 0x80);
        x.time(0, -3);
        x.run(0, 1);
        CHECK.due("MTIME below MTIMECMP", x.hart(0, 0, 1), Stage.CODE + 4);
        x.run(0, 1);
        CHECK.due("MTIP in S", Stage.cause(x), LEAST | 7);
        x = Stage.in(1, false, "nop\nnop", 0x304, 0x800);
        CHECK.due("nothing is pending", x.run(0, 1), 1);
        CHECK.due("pc", x.hart(0, 0, 1), Stage.CODE + 4);
    }

    private static void vectors() {
        CHECK.about("term 4: bit 0 of the vector");
        for (int n : new int[] {1, 5, 9}) {
            RiscMonitor x = Stage.ran(1, 0, false, "nop", 0x305, Stage.HANDLER + 1, 0x344, 1 << n, 0x304, -1);
            CHECK.due("to M", x.hart(0, 0, 1), Stage.HANDLER + 4 * n);
            x = Stage.ran(1, 0, false, "nop", 0x105, Stage.S_HANDLER + 1, 0x344, 1 << n, 0x304, -1, 0x303, -1);
            CHECK.due("to S", x.hart(0, 0, 1), Stage.S_HANDLER + 4 * n);
            x = Stage.ran(1, 0, true, "nop", 0x205, Stage.VS_HANDLER + 1, 0x645, 2 << n, 0x304, -1, 0x603, -1);
            CHECK.due("to VS, one lower", x.hart(0, 0, 1), Stage.VS_HANDLER + 4 * n);
            x = Stage.ran(1, 0, true, "nop", 0x105, Stage.S_HANDLER + 1, 0x645, 2 << n, 0x304, -1);
            CHECK.due("VS's to S", x.hart(0, 0, 1), Stage.S_HANDLER + 4 * n + 4);
        }
        RiscMonitor x = Stage.ran(1, 0, false, "ecall", 0x305, Stage.HANDLER + 1);
        CHECK.due("exceptions don't", x.hart(0, 0, 1), Stage.HANDLER);
        x = Stage.ran(1, 0, false, "nop", 0x305, -3, 0x344, 2, 0x304, 2);
        CHECK.due("the vector wraps around", x.hart(0, 0, 1), 0);
    }

    private static void machineReturns() {
        for (int set = 0; set < 48; set++) {
            int mpp = new int[] {0, 1, 3}[set % 3];
            boolean mpv = (set / 3 & 1) != 0;
            boolean mpie = (set / 6 & 1) != 0;
            boolean mprv = (set / 12 & 1) != 0;
            long status = with(with(with((long) mpp << 11, 39, mpv), 7, mpie), 17, mprv) | (set >= 24 ? 0x122 : 0);
            RiscMonitor x = Stage.in(3, false, "mret", MSTATUS, status, 0x341, Stage.CODE + 64);
            CHECK.about("term 4: mret of " + Long.toHexString(status));
            x.run(0, 1);
            long want = with(with(with(status & ~(3L << 11), 39, false), 3, mpie), 7, true) | 0xa00000000L;
            want = mpp != 3 ? with(want, 17, false) : want;
            CHECK.due("mstatus", x.control(0, 0, MSTATUS), want);
            CHECK.due("mode", x.hart(0, 0, 0), mpp == 3 ? 3 : mpp + (mpv ? 4 : 0));
            CHECK.due("pc", x.hart(0, 0, 1), Stage.CODE + 64);
        }
    }

    private static void lowerReturns() {
        for (int set = 0; set < 8; set++) {
            boolean spp = (set & 1) != 0;
            boolean spie = (set & 2) != 0;
            boolean spv = (set & 4) != 0;
            long status = with(with(0, 8, spp), 5, spie);
            for (int mode : new int[] {1, 3, 5}) {
                RiscMonitor x = Stage.in(mode & 3, mode == 5, "sret", mode == 5 ? VSSTATUS : MSTATUS, status | (mode == 3 ? 1 << 17 : 0),
                        HSTATUS, with(0x340, 7, spv),
                        0x141, Stage.CODE + 128, 0x241, Stage.CODE + 256);
                CHECK.about("term 4: sret in mode " + mode + ", set " + set);
                long host = x.control(0, 0, HSTATUS);
                long machine = x.control(0, 0, MSTATUS);
                long guest = x.control(0, 0, VSSTATUS);
                x.run(0, 1);
                boolean v = mode == 5 || spv;
                CHECK.due("mode", x.hart(0, 0, 0), (spp ? 1 : 0) + (v ? 4 : 0));
                CHECK.due("pc", x.hart(0, 0, 1), Stage.CODE + (mode == 5 ? 256 : 128));
                CHECK.due("mstatus", x.control(0, 0, MSTATUS), mode == 5 ? machine : with(left(machine, spie), 17, false));
                CHECK.due("vsstatus", x.control(0, 0, VSSTATUS), mode == 5 ? left(guest, spie) : guest);
                CHECK.due("hstatus", x.control(0, 0, HSTATUS), mode == 5 ? host : with(host, 7, false));
            }
        }
    }

    /** SIE, SPIE and SPP behind sret. */
    private static long left(long status, boolean spie) {
        return with(with(with(status, 1, spie), 5, true), 8, false);
    }

    private static void endsOfReservations() {
        CHECK.about("term 2: a RESERVATION is gone by any trap or return of its own hart");
        String hold = "la s0,0x80001040\nlr.d a0,(s0)\n";
        String[] lines = {"ecall", "mret", "sret", ".word 0", "sc.d a1,a0,(zero)"};
        for (String line : lines) {
            RiscMonitor x = Stage.in(3, false, hold + line);
            x.run(0, 3);
            CHECK.due("it is there", x.hart(0, 0, 3), Check.RAM + 0x1040);
            x.run(0, 1);
            CHECK.due("behind " + line, x.hart(0, 0, 3), -1);
        }
        String[] leave = {"nop", "fence", "fence.i", "wfi", "sfence.vma x0,x0", "csrw 0x340,zero", "sd a0,0(s0)", "lw a0,0(s0)",
                "amoadd.d a0,a0,(s0)"};
        for (String line : leave) {
            RiscMonitor x = Stage.ran(4, 3, false, hold + line);
            CHECK.due(line + " leaves it", x.hart(0, 0, 3), Check.RAM + 0x1040);
        }
        RiscMonitor x = Stage.in(1, false, hold + "nop", 0x304, 0x80);
        x.run(0, 3);
        x.time(0, -2);
        x.run(0, 1);
        CHECK.due("an interrupt", x.hart(0, 0, 3), -1);
    }
}
