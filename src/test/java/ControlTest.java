/** Promise 12: control registers, who may have them, interrupts, traps and returns. */
public final class ControlTest {
    private static final Check CHECK = new Check();
    private static final long RAM = Check.RAM;
    private static final long HANDLER = RAM + 0x800;
    private static final long LOWER = RAM + 0x400;

    public static void main(String[] args) {
        CHECK.about("promise 12");
        refusals();
        firstValues();
        writtenBits();
        protectionBits();
        pendingBits();
        whoMay();
        counterRights();
        systemRights();
        interrupts();
        delegation();
        guests();
        returns();
        CHECK.end();
    }

    private static void refusals() {
        RiscMonitor x = new RiscMonitor();
        CHECK.dueRefusal("no computer", () -> x.control(0, 0, 0x300));
        x.computer(1, 1);
        CHECK.dueRefusal("no hart", () -> x.control(0, 1, 0x300));
        int[] none = {-1, 0, 0x102, 0x103, 0x206, 0x206, 0x307, 0x30a, 0x310, 0x321, 0x3a1, 0x3b8, 0x601, 0x608, 0xb01, 0xc03, 0xf10, 0xf16, 4096};
        for (int number : none) {
            CHECK.dueRefusal("control of " + number, () -> x.control(0, 0, number));
        }
    }

    private static void firstValues() {
        RiscMonitor x = Check.house(2, 1, "nop");
        int[] numbers = {0x300, 0x301, 0x303, 0x100, 0x200, 0x600, 0xf14};
        long[] values = {0xa00000000L, 0x8000000000141187L, 0x444, 0x200000000L, 0x200000000L, 0x200000000L, 1};
        for (int i = 0; i < numbers.length; i++) {
            CHECK.due("control of " + numbers[i], x.control(0, 1, numbers[i]), values[i]);
        }
        int[] zeros = {0x302, 0x304, 0x305, 0x306, 0x320, 0x340, 0x341, 0x342, 0x343, 0x344, 0x34a, 0x34b, 0x3a0, 0x3b0, 0x3b7,
            0xb00, 0xb02, 0xc00, 0xc01, 0xc02, 0xf11, 0xf12, 0xf13, 0xf15, 0x104, 0x105, 0x106, 0x140, 0x141, 0x142, 0x143, 0x144,
            0x180, 0x602, 0x603, 0x604, 0x605, 0x606, 0x607, 0x643, 0x644, 0x645, 0x64a, 0x680, 0xe12, 0x204, 0x205, 0x240, 0x241,
            0x242, 0x243, 0x244, 0x280};
        for (int number : zeros) {
            CHECK.due("control of " + number, x.control(0, 1, number), 0);
        }
    }

    /** What a register has when all bits are written, some registers being written ahead of that. */
    private static void all(int number, long want, String... ahead) {
        RiscMonitor x = Check.house(1, 1, String.join("\n", ahead), "li t6,-1", "csrw " + number + ",t6", "wfi");
        x.run(0, 40);
        CHECK.due("all bits written to " + number, x.control(0, 0, number), want);
    }

    private static void writtenBits() {
        all(0x300, 0xca007e19aaL);
        all(0x301, 0x8000000000141187L);
        all(0x302, 0xf0b7ff);
        all(0x303, 0x666);
        all(0x304, 0xeee);
        all(0x305, ~2L);
        all(0x306, 7);
        all(0x320, 5);
        all(0x340, -1);
        all(0x34a, -1);
        all(0x3b0, (1L << 54) - 1);
        all(0x100, 0x2000c0122L);
        all(0x104, 0);
        all(0x104, 0x222, "li a0,-1", "csrw 0x303,a0");
        all(0x105, ~2L);
        all(0x106, 7);
        all(0x140, -1);
        all(0x600, 0x2007003c0L);
        all(0x602, 0xb1ff);
        all(0x603, 0x444);
        all(0x604, 0x444);
        all(0x605, -1);
        all(0x606, 7);
        all(0x607, 0);
        all(0x643, -1);
        all(0x644, 4);
        all(0x645, 0x444);
        all(0x200, 0x2000c0122L);
        all(0x204, 0);
        all(0x204, 0x222, "li a0,-1", "csrw 0x603,a0");
        all(0x244, 0);
        all(0x244, 2, "li a0,-1", "csrw 0x603,a0");
        all(0x205, ~2L);
        all(0x240, -1);
        all(0x180, 0);
        RiscMonitor x = Check.ran(9, "li a0,-1", "srli a0,a0,1", "bclri a0,a0,62", "bclri a0,a0,61", "bclri a0,a0,60",
                "bseti a0,a0,63", "csrw 0x180,a0", "csrw 0x280,a0", "csrw 0x680,a0");
        CHECK.due("satp", x.control(0, 0, 0x180), 0x8fffffffffffffffL);
        CHECK.due("vsatp", x.control(0, 0, 0x280), 0x8fffffffffffffffL);
        CHECK.due("hgatp", x.control(0, 0, 0x680), 0x83fffffffffffffcL);
        x = Check.ran(9, "li a0,5", "csrw 0x180,a0", "li a1,-1", "csrw 0x180,a1");
        CHECK.due("another MODE: it stays", x.control(0, 0, 0x180), 5);
        x = Check.ran(6, "li a0,0x800", "csrw 0x300,a0", "li a1,0x1008", "csrw 0x300,a1");
        CHECK.due("MPP 2 leaves it, other bits are written", x.control(0, 0, 0x300), 0xa00000808L);
        x = Check.ran(6, "li a0,5", "csrrs a1,0x340,a0", "csrrsi a2,0x340,10", "csrrci a3,0x340,6", "csrrc a4,0x340,zero");
        CHECK.due("sets", x.register(0, 0, 12), 5);
        CHECK.due("clears", x.register(0, 0, 13), 15);
        CHECK.due("rd", x.register(0, 0, 14), 9);
        x = Check.ran(2, "csrrsi a0,0xf14,0", "csrrsi a0,0xf14,1");
        CHECK.due("read alone and written", x.control(0, 0, 0x342), 2);
        CHECK.due("where", x.control(0, 0, 0x341), RAM + 4);
    }

    private static void protectionBits() {
        all(0x3a0, 0x9f9f9f9f9f9f9f9fL);
        RiscMonitor x = Check.ran(8, "li a0,0x0a1f", "csrw 0x3a0,a0", "li a0,0x021a", "csrw 0x3a0,a0");
        CHECK.due("W without R stays", x.control(0, 0, 0x3a0), 0x1f);
        x = Check.ran(20, "li a0,0x8800", "csrw 0x3a0,a0", "li a1,7", "csrw 0x3b0,a1", "csrw 0x3b1,a1", "csrw 0x3b2,a1", "csrw 0x3a0,a1");
        CHECK.due("L", x.control(0, 0, 0x3a0), 0x8807);
        CHECK.due("the one below of A 1", x.control(0, 0, 0x3b0), 0);
        CHECK.due("its own", x.control(0, 0, 0x3b1), 0);
        CHECK.due("the one above", x.control(0, 0, 0x3b2), 7);
        x = Check.ran(20, "li a0,0x9000", "csrw 0x3a0,a0", "li a1,7", "csrw 0x3b0,a1");
        CHECK.due("the one below of A 2", x.control(0, 0, 0x3b0), 7);
    }

    private static void pendingBits() {
        RiscMonitor x = Check.ran(2, "li a0,-1", "csrw 0x344,a0");
        CHECK.due("mip", x.control(0, 0, 0x344), 0x226);
        CHECK.due("hvip", x.control(0, 0, 0x645), 4);
        CHECK.due("sip without mideleg", x.control(0, 0, 0x144), 0);
        x = Check.ran(5, "li a0,-1", "csrw 0x303,a0", "csrw 0x144,a0", "csrw 0x645,a0", "csrw 0x603,a0");
        CHECK.due("sip", x.control(0, 0, 0x144), 2);
        CHECK.due("mip has hvip", x.control(0, 0, 0x344), 0x446);
        CHECK.due("hip", x.control(0, 0, 0x644), 0x444);
        CHECK.due("vsip", x.control(0, 0, 0x244), 0x222);
        x = Check.house(1, 1, "li s0,0xc002080", "li s1,16", "sw s1,0(s0)", "li s0,0xc000010", "sw s1,0(s0)", "li a1,512", "csrrs a0,0x344,zero",
                "csrrs a2,0x344,s1", "csrrs a3,0x344,zero", "csrw 0x344,zero", "csrrs a4,0x344,a1", "csrrc a5,0x344,a1");
        x.wire(0, 4, true);
        x.run(0, 7);
        CHECK.due("priority 0 is none", x.control(0, 0, 0x344), 0);
        x = Check.house(1, 1, "li s0,0xc002080", "li s1,16", "sw s1,0(s0)", "li s0,0xc000010", "li s1,7", "sw s1,0(s0)", "li a1,512",
                "csrrs a2,0x344,zero", "li a3,2", "csrrs a4,0x344,a3", "csrrs a5,0x344,a1", "csrrc a6,0x344,a3");
        x.wire(0, 4, true);
        x.run(0, 12);
        CHECK.due("the controller's SEIP", x.register(0, 0, 12), 512);
        x.run(0, 1);
        x.wire(0, 4, false);
        CHECK.due("a set of another bit", x.control(0, 0, 0x344), 514);
        x.run(0, 2);
        x.poke(0, 0, 0);
        CHECK.due("own SEIP is set", x.control(0, 0, 0x344), 512);
    }

    /** A program that goes to a mode (MPP, with V) at LOWER with a line there, M's handler being HANDLER. */
    private static RiscMonitor lower(int mpp, boolean guest, String line, String... ahead) {
        RiscMonitor x = Check.house(1, 2, String.join("\n", ahead), "la t0,0x80000800", "csrw 0x305,t0", "la t0,0x80000400", "csrw 0x341,t0",
                "li t0," + (guest ? 0x80 : 0), "slli t0,t0,32", "li t1," + mpp * 2048, "or t0,t0,t1", "csrrs zero,0x300,t0", "mret",
                ".align 10", line, ".align 11", "j 0x80000800");
        for (int i = 0; i < 60 && x.hart(0, 0, 1) != LOWER; i++) {
            x.run(0, 1);
        }
        x.run(0, 1);
        return x;
    }

    private static void cause(String text, RiscMonitor x, long want) {
        boolean trapped = x.hart(0, 0, 1) == HANDLER;
        CHECK.due(text, trapped ? x.control(0, 0, 0x342) : 0, want);
    }

    private static String set(int number, long bits) {
        return "li a0," + bits + "\ncsrw " + number + ",a0";
    }

    private static void whoMay() {
        cause("mstatus in S", lower(1, false, "csrr a0,0x300"), 2);
        cause("sstatus in S", lower(1, false, "csrr a0,0x100"), 0);
        cause("sstatus in U", lower(0, false, "csrr a0,0x100"), 2);
        cause("hstatus in S", lower(1, false, "csrr a0,0x600"), 0);
        cause("hstatus in U", lower(0, false, "csrr a0,0x600"), 2);
        cause("vsstatus in S", lower(1, false, "csrr a0,0x200"), 0);
        cause("hstatus in VS", lower(1, true, "csrr a0,0x600"), 22);
        cause("hstatus in VU", lower(0, true, "csrr a0,0x600"), 22);
        cause("vsstatus in VS", lower(1, true, "csrr a0,0x200"), 22);
        cause("no 0x601 in VS", lower(1, true, "csrr a0,0x601"), 2);
        cause("no 0x206 in VS", lower(1, true, "csrr a0,0x206"), 2);
        cause("sstatus in VS", lower(1, true, "csrr a0,0x100"), 0);
        cause("sstatus in VU", lower(0, true, "csrr a0,0x100"), 22);
        cause("mstatus in VS", lower(1, true, "csrr a0,0x300"), 2);
        cause("hgeip in VS", lower(1, true, "csrr a0,0xe12"), 2);
        cause("hgeip in S", lower(1, false, "csrr a0,0xe12"), 0);
        cause("satp in S with TVM", lower(1, false, "csrr a0,0x180", set(0x300, 1 << 20)), 2);
        cause("hgatp in S with TVM", lower(1, false, "csrr a0,0x680", set(0x300, 1 << 20)), 2);
        cause("vsatp in S with TVM", lower(1, false, "csrr a0,0x280", set(0x300, 1 << 20)), 0);
        cause("satp in VS with TVM", lower(1, true, "csrr a0,0x180", set(0x300, 1 << 20)), 0);
        cause("satp in VS with VTVM", lower(1, true, "csrr a0,0x180", set(0x600, 1 << 20)), 22);
        RiscMonitor x = lower(1, true, "csrrwi a0,0x140,5", set(0x240, 7), set(0x140, 9));
        CHECK.due("with V sscratch is vsscratch", x.register(0, 0, 10), 7);
        CHECK.due("it is written", x.control(0, 0, 0x240), 5);
        CHECK.due("the other stays", x.control(0, 0, 0x140), 9);
        x = lower(1, true, "csrrwi a0,0x106,5");
        CHECK.due("scounteren is its own", x.control(0, 0, 0x106), 5);
        x = lower(1, false, "csrrwi a0,0x305,5");
        CHECK.due("the value of 2: the bits", x.control(0, 0, 0x343), 0x3052d573L);
    }

    private static void counterRights() {
        cause("time in S", lower(1, false, "csrr a0,0xc01"), 2);
        cause("time in S, mcounteren", lower(1, false, "csrr a0,0xc01", set(0x306, 2)), 0);
        cause("time in U, mcounteren", lower(0, false, "csrr a0,0xc01", set(0x306, 2)), 2);
        cause("time in U, both", lower(0, false, "csrr a0,0xc01", set(0x306, 2), set(0x106, 2)), 0);
        cause("instret in U, others'", lower(0, false, "csrr a0,0xc02", set(0x306, 3), set(0x106, 7)), 2);
        cause("cycle in VS", lower(1, true, "csrr a0,0xc00"), 2);
        cause("cycle in VS, mcounteren", lower(1, true, "csrr a0,0xc00", set(0x306, 1)), 22);
        cause("cycle in VS, hcounteren alone", lower(1, true, "csrr a0,0xc00", set(0x606, 1)), 2);
        cause("cycle in VS, both", lower(1, true, "csrr a0,0xc00", set(0x306, 1), set(0x606, 1)), 0);
        cause("cycle in VU, both", lower(0, true, "csrr a0,0xc00", set(0x306, 1), set(0x606, 1)), 22);
        cause("cycle in VU, all", lower(0, true, "csrr a0,0xc00", set(0x306, 1), set(0x606, 1), set(0x106, 1)), 0);
        cause("written", lower(0, true, "csrw 0xc00,zero", set(0x306, 1)), 2);
        RiscMonitor x = lower(1, true, "csrr a0,0xc01", set(0x306, 2), set(0x606, 2), set(0x605, 1000));
        CHECK.due("htimedelta", x.register(0, 0, 10), x.control(0, 0, 0xc01) + 1000);
    }

    private static void systemRights() {
        String[] lines = {"mret", "sret", "wfi", "sfence.vma x0,x0", "hfence.vvma x0,x0", "hfence.gvma x0,x0", "hlv.b a0,(t0)", "hsv.b a0,(t0)"};
        long[] inU = {2, 2, 2, 2, 2, 2, 2, 2};
        long[] inS = {2, 0, 0, 0, 0, 0, 0, 0};
        long[] inGuestU = {2, 22, 22, 22, 22, 22, 22, 22};
        long[] inGuestS = {2, 0, 0, 0, 22, 22, 22, 22};
        String place = set(0x241, LOWER) + "\n" + set(0x141, LOWER).replace("li", "la");
        place = place.replace("li a0," + LOWER, "la a0," + LOWER);
        for (int i = 0; i < lines.length; i++) {
            String end = lines[i].startsWith("h") && lines[i].contains("(") ? "la t0,0x80000000\n" : "";
            cause(lines[i] + " in U", lowerPast(0, false, end, lines[i], place), inU[i]);
            cause(lines[i] + " in S", lowerPast(1, false, end, lines[i], place), inS[i]);
            cause(lines[i] + " in VU", lowerPast(0, true, end, lines[i], place), inGuestU[i]);
            cause(lines[i] + " in VS", lowerPast(1, true, end, lines[i], place), inGuestS[i]);
        }
        cause("sret in S with TSR", lower(1, false, "sret", set(0x300, 1 << 22)), 2);
        cause("wfi in S with TW", lower(1, false, "wfi", set(0x300, 1 << 21)), 2);
        cause("wfi in VS with TW", lower(1, true, "wfi", set(0x300, 1 << 21), set(0x600, 1 << 21)), 2);
        cause("wfi in VU with TW", lower(0, true, "wfi", set(0x300, 1 << 21)), 2);
        cause("wfi in VS with VTW", lower(1, true, "wfi", set(0x600, 1 << 21)), 22);
        cause("sfence in S with TVM", lower(1, false, "sfence.vma x0,x0", set(0x300, 1 << 20)), 2);
        cause("sfence in VS with VTVM", lower(1, true, "sfence.vma x0,x0", set(0x600, 1 << 20)), 22);
        cause("sret in VS with VTSR", lower(1, true, "sret", set(0x600, 1 << 22)), 22);
        cause("hfence.gvma in S with TVM", lower(1, false, "hfence.gvma x0,x0", set(0x300, 1 << 20)), 2);
        cause("hfence.vvma in S with TVM", lower(1, false, "hfence.vvma x0,x0", set(0x300, 1 << 20)), 0);
        cause("hlv in U with HU", lowerPast(0, false, "la t0,0x80000000\n", "hlv.b a0,(t0)", set(0x600, 1 << 9)), 0);
        cause("ecall in U", lower(0, false, "ecall"), 8);
        cause("ecall in VU", lower(0, true, "ecall"), 8);
        cause("ecall in S", lower(1, false, "ecall"), 9);
        cause("ecall in VS", lower(1, true, "ecall"), 10);
        cause("ecall in M", lower(3, false, "ecall"), 11);
        cause("ecall in M, MPV", lower(3, true, "ecall"), 11);
        RiscMonitor x = lower(0, true, "ebreak");
        cause("ebreak", x, 3);
        CHECK.due("its value", x.control(0, 0, 0x343), LOWER);
        CHECK.due("GVA, MPV, MPP", x.control(0, 0, 0x300) & 0xc000001800L, 0xc000000000L);
        x = lower(1, true, "ecall");
        CHECK.due("no GVA", x.control(0, 0, 0x300) & 0xc000001800L, 0x8000000800L);
    }

    /** As lower(), with lines ahead of the one that is meant. */
    private static RiscMonitor lowerPast(int mpp, boolean guest, String first, String line, String... ahead) {
        RiscMonitor x = lower(mpp, guest, first + line, ahead);
        for (int i = 0; i < 2 && !first.isEmpty(); i++) {
            x.run(0, 1);
        }
        return x;
    }

    private static void interrupts() {
        CHECK.about("promise 12, interrupts");
        RiscMonitor x = Check.house(1, 1, "la t0,0x80000101", "csrw 0x305,t0", "li a0,0x222", "csrw 0x304,a0", "csrw 0x344,a0",
                "csrrsi a1,0x300,8", "nop");
        x.run(0, 7);
        CHECK.due("not yet", x.hart(0, 0, 1), RAM + 28);
        x.run(0, 1);
        CHECK.due("the vector of 9", x.hart(0, 0, 1), RAM + 256 + 36);
        CHECK.due("mcause", x.control(0, 0, 0x342), Long.MIN_VALUE + 9);
        CHECK.due("mepc", x.control(0, 0, 0x341), RAM + 28);
        CHECK.due("mstatus", x.control(0, 0, 0x300), 0xa00001880L);
        CHECK.due("mcycle grows by it", x.control(0, 0, 0xb00), 8);
        CHECK.due("minstret doesn't", x.control(0, 0, 0xb02), 7);
        CHECK.due("traps", x.state(0, 7), 1);
        CHECK.due("it is not traced", x.trace(0, 0, 1), RAM + 24);
        x.run(0, 1);
        CHECK.due("MIE is 0", x.control(0, 0, 0x342), 2);
        x = lower(1, false, "nop\nnop", set(0x304, 2), set(0x344, 2));
        CHECK.due("below M always", x.control(0, 0, 0x342), Long.MIN_VALUE + 1);
        x = lower(1, false, "nop\nnop", set(0x303, 2), set(0x304, 2), set(0x344, 2));
        CHECK.due("delegated, SIE 0", x.hart(0, 0, 1), LOWER + 4);
        x = lower(0, false, "nop\nnop", set(0x303, 2), set(0x304, 2), set(0x344, 2), "la a1,0x80000300", "csrw 0x105,a1");
        CHECK.due("delegated, in U", x.hart(0, 0, 1), RAM + 0x300);
        CHECK.due("scause", x.control(0, 0, 0x142), Long.MIN_VALUE + 1);
        CHECK.due("mode", x.hart(0, 0, 0), 1);
        x = lower(1, false, "nop\nnop", set(0x300, 2), set(0x303, 2), set(0x304, 2), set(0x344, 2));
        CHECK.due("delegated, SIE", x.control(0, 0, 0x141), LOWER);
        CHECK.due("sstatus", x.control(0, 0, 0x100), 0x200000120L);
    }

    private static void delegation() {
        CHECK.about("promise 12, delegation");
        RiscMonitor x = lower(0, false, "ecall", set(0x302, 256), "la a1,0x80000301", "csrw 0x105,a1");
        CHECK.due("to S", x.hart(0, 0, 1), RAM + 0x300);
        CHECK.due("mode", x.hart(0, 0, 0), 1);
        CHECK.due("scause", x.control(0, 0, 0x142), 8);
        CHECK.due("sepc", x.control(0, 0, 0x141), LOWER);
        CHECK.due("stval", x.control(0, 0, 0x143), 0);
        CHECK.due("mcause stays", x.control(0, 0, 0x342), 0);
        x = lower(3, false, "ecall", set(0x302, -1), "nop");
        cause("from M to M", x, 11);
        x = lower(1, false, "ecall", set(0x302, -1), set(0x602, -1));
        CHECK.due("9 can be delegated", x.control(0, 0, 0x142), 9);
    }

    private static void guests() {
        CHECK.about("promise 12, guests");
        RiscMonitor x = lower(0, true, "ecall", set(0x302, -1), set(0x602, -1), "la a1,0x80000300", "csrw 0x205,a1");
        CHECK.due("to VS", x.hart(0, 0, 1), RAM + 0x300);
        CHECK.due("VS", x.hart(0, 0, 0), 5);
        CHECK.due("vscause", x.control(0, 0, 0x242), 8);
        CHECK.due("vsepc", x.control(0, 0, 0x241), LOWER);
        CHECK.due("vsstatus: SPP of VU", x.control(0, 0, 0x200), 0x200000000L);
        x = lower(1, true, "ecall", set(0x302, -1), set(0x602, -1));
        CHECK.due("10 goes to S", x.hart(0, 0, 0), 1);
        CHECK.due("hstatus: SPV, SPVP", x.control(0, 0, 0x600), 0x200000180L);
        CHECK.due("SPP", x.control(0, 0, 0x100), 0x200000100L);
        x = lower(0, true, "nop", set(0x304, 0x444), set(0x645, 0x444), set(0x603, 0x444), "la a1,0x80000301", "csrw 0x205,a1");
        CHECK.due("vscause, one lower", x.control(0, 0, 0x242), Long.MIN_VALUE + 9);
        CHECK.due("its vector", x.hart(0, 0, 1), RAM + 0x300 + 36);
        x = lower(1, true, "nop", set(0x304, 0x444), set(0x645, 0x444), set(0x603, 0x444));
        CHECK.due("VS without vsstatus' SIE", x.hart(0, 0, 1), LOWER + 4);
        x = lower(1, true, "nop", set(0x304, 0x444), set(0x645, 0x40), set(0x603, 0x400), "la a1,0x80000301", "csrw 0x105,a1");
        CHECK.due("not in hideleg: to S", x.control(0, 0, 0x142), Long.MIN_VALUE + 6);
        CHECK.due("its vector", x.hart(0, 0, 1), RAM + 0x300 + 24);
        x = lower(1, false, "nop", set(0x304, 0x444), set(0x645, 0x444), set(0x603, 0x444), set(0x300, 2));
        CHECK.due("VS's without V", x.hart(0, 0, 1), LOWER + 4);
    }

    private static void returns() {
        CHECK.about("promise 12, returns");
        RiscMonitor x = lower(1, true, "nop", set(0x300, 0x20080));
        CHECK.due("VS", x.hart(0, 0, 0), 5);
        CHECK.due("mstatus: MIE, MPIE, no MPRV, MPP, MPV", x.control(0, 0, 0x300), 0xa00000088L);
        x = lower(1, false, "sret", set(0x600, 128), set(0x300, 0x20), "la a1,0x80000300", "csrw 0x141,a1");
        CHECK.due("sret to VU", x.hart(0, 0, 0), 4);
        CHECK.due("pc", x.hart(0, 0, 1), RAM + 0x300);
        CHECK.due("SIE, SPIE", x.control(0, 0, 0x100), 0x200000022L);
        CHECK.due("SPV 0", x.control(0, 0, 0x600), 0x200000000L);
        x = lower(1, true, "sret", set(0x200, 0x120), "la a1,0x80000300", "csrw 0x241,a1");
        CHECK.due("sret in VS to VS", x.hart(0, 0, 0), 5);
        CHECK.due("pc", x.hart(0, 0, 1), RAM + 0x300);
        CHECK.due("vsstatus", x.control(0, 0, 0x200), 0x200000022L);
        x = Check.ran(6, "li a0,0x21900", "csrw 0x300,a0", "la a1,0x80000300", "csrw 0x341,a1", "mret");
        x.run(0, 1);
        CHECK.due("mret to M", x.hart(0, 0, 0), 3);
        CHECK.due("MPRV stays", x.control(0, 0, 0x300), 0xa00020180L);
    }
}
