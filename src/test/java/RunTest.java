/** Promises 7, 8, 10 and 11: runs, resets, harts and their registers, by what instructions do. */
public final class RunTest {
    private static final Check CHECK = new Check();
    private static final long RAM = Check.RAM;

    public static void main(String[] args) {
        refusals();
        computing();
        jumps();
        memory();
        atomics();
        shortWords();
        counters();
        resets();
        waiting();
        harts();
        CHECK.end();
    }

    private static void refusals() {
        CHECK.about("promise 7");
        RiscMonitor x = Check.house(1, 1, "j 0x80000000");
        CHECK.due("run(1, 1)", x.run(1, 1), -2);
        CHECK.due("run(1, 0)", x.run(1, 0), -2);
        CHECK.due("run(0, 0)", x.run(0, 0), -4);
        CHECK.due("run(0, 2001)", x.run(0, 2001), -4);
        CHECK.due("run(0, 2000)", x.run(0, 2000), 2000);
        CHECK.due("run(0, 1)", x.run(0, 1), 1);
        x = Check.house(1, 1, "li t0,0x100000", "li t1,0x5555", "sw t1,0(t0)");
        CHECK.due("fewer, as it goes OFF", x.run(0, 10), 5);
        CHECK.due("not RUNNING", x.run(0, 10), -5);
        CHECK.due("-4 ahead of -5", x.run(0, 0), -4);
        CHECK.about("promise 11");
        RiscMonitor y = x;
        CHECK.dueRefusal("register(1, 0, 0)", () -> y.register(1, 0, 0));
        CHECK.dueRefusal("register(0, 1, 0)", () -> y.register(0, 1, 0));
        CHECK.dueRefusal("register(0, -1, 0)", () -> y.register(0, -1, 0));
        CHECK.dueRefusal("register(0, 0, 32)", () -> y.register(0, 0, 32));
        CHECK.dueRefusal("register(0, 0, -1)", () -> y.register(0, 0, -1));
        CHECK.due("x0", y.register(0, 0, 0), 0);
        CHECK.due("x5", y.register(0, 0, 5), 0x100000);
    }

    /** A computing instruction of a0 and a1 into a2. */
    private static void op(String line, long a, long b, long want) {
        RiscMonitor x = Check.house(1, 1, "la s0,a", "ld a0,0(s0)", "ld a1,8(s0)", line, ".align 3",
                "a: .dword 0x" + Long.toHexString(a), ".dword 0x" + Long.toHexString(b));
        x.run(0, 5);
        CHECK.due(line + " of " + a + ", " + b, x.register(0, 0, 12), want);
    }

    private static void computing() {
        CHECK.about("promise 7, computing");
        long least = Long.MIN_VALUE;
        op("add a2,a0,a1", least, -1, Long.MAX_VALUE);
        op("slt a2,a0,a1", -1, 0, 1);
        op("sltu a2,a0,a1", -1, 0, 0);
        op("sltiu a2,a0,-1", 5, 0, 1);
        op("sll a2,a0,a1", 1, 64 + 63, least);
        op("sra a2,a0,a1", least, 63, -1);
        op("srl a2,a0,a1", -1, 63, 1);
        op("xnor a2,a0,a1", 5, 3, ~6);
        op("orn a2,a0,a1", 0, -2, 1);
        op("andn a2,a0,a1", 15, 5, 10);
        op("mulh a2,a0,a1", -1, -1, 0);
        op("mulhsu a2,a0,a1", -1, -1, -1);
        op("mulhu a2,a0,a1", -1, -1, -2);
        op("div a2,a0,a1", 7, 0, -1);
        op("div a2,a0,a1", least, -1, least);
        op("rem a2,a0,a1", least, -1, 0);
        op("rem a2,a0,a1", -7, 2, -1);
        op("rem a2,a0,a1", 7, 0, 7);
        op("divu a2,a0,a1", -1, 2, Long.MAX_VALUE);
        op("divu a2,a0,a1", -1, 0, -1);
        op("divu a2,a0,a1", 5, -1, 0);
        op("remu a2,a0,a1", -1, 10, 5);
        op("divw a2,a0,a1", 0x80000000L, -1, -0x80000000L);
        op("divuw a2,a0,a1", 0xffffffffL, 1, -1);
        op("remuw a2,a0,a1", 0x80000005L, 0, -0x7ffffffbL);
        op("mulw a2,a0,a1", 0x10000, 0x8000, -0x80000000L);
        op("addw a2,a0,a1", 0x7fffffff, 1, -0x80000000L);
        op("srlw a2,a0,a1", 0x180000000L, 31 + 32, 1);
        op("sraiw a2,a0,4", 0x80000000L, 0, -0x8000000L);
        op("rolw a2,a0,a1", 0x80000001L, 1, 3);
        op("rorw a2,a0,a1", 1, 1, -0x80000000L);
        op("ror a2,a0,a1", 1, 64, 1);
        op("rori a2,a0,1", 1, 0, least);
        op("add.uw a2,a0,a1", -1, 1, 0x100000000L);
        op("sh2add.uw a2,a0,a1", -1, 1, 0x3fffffffdL);
        op("sh3add a2,a0,a1", 2, 1, 17);
        op("slli.uw a2,a0,32", -1, 0, -0x100000000L);
        op("clz a2,a0", 0, 0, 64);
        op("ctz a2,a0", 0, 0, 64);
        op("ctzw a2,a0", 0x100000000L, 0, 32);
        op("clzw a2,a0", 0x100000001L, 0, 31);
        op("cpopw a2,a0", -1, 0, 32);
        op("sext.b a2,a0", 0x180, 0, -128);
        op("sext.h a2,a0", 0x8000, 0, -32768);
        op("zext.h a2,a0", -1, 0, 65535);
        op("orc.b a2,a0", 0x0100800000000010L, 0, 0xff00ff00000000ffL);
        op("rev8 a2,a0", 0x0102030405060708L, 0, 0x0807060504030201L);
        op("minu a2,a0,a1", -1, 1, 1);
        op("max a2,a0,a1", -1, 1, 1);
        op("clmul a2,a0,a1", 3, 3, 5);
        op("clmulh a2,a0,a1", least, 6, 3);
        op("clmulr a2,a0,a1", least, 6, 6);
        op("bset a2,a0,a1", 0, 63, least);
        op("bclr a2,a0,a1", -1, 64, -2);
        op("bext a2,a0,a1", least, 63, 1);
        op("binvi a2,a0,2", 4, 0, 0);
        op("czero.eqz a2,a0,a1", 5, 0, 0);
        op("czero.nez a2,a0,a1", 5, 0, 5);
        op("lui a2,0x80000", 0, 0, -0x80000000L);
        op("auipc a2,0xfffff", 0, 0, RAM + 16 - 4096);
        op("addi x0,a0,1", 5, 0, 0);
    }

    private static void jumps() {
        CHECK.about("promise 7, jumps");
        RiscMonitor x = Check.ran(3, "jal ra,a", "nop", "a: jalr t0,-7(ra)", "nop");
        CHECK.due("ra", x.register(0, 0, 1), RAM + 4);
        CHECK.due("jalr's rd", x.register(0, 0, 5), RAM + 12);
        CHECK.due("pc without its lowest bit: a trap", x.hart(0, 0, 1), 0);
        CHECK.due("where to", x.control(0, 0, 0x341), RAM - 4);
        x = Check.ran(1, "jalr zero,8(zero)");
        CHECK.due("jalr", x.hart(0, 0, 1), 8);
        String[] taken = {"beq t0,t0", "bne t0,t1", "blt t1,t0", "bge t0,t1", "bltu t0,t1", "bgeu t1,t0"};
        String[] not = {"beq t0,t1", "bne t0,t0", "blt t0,t1", "bge t1,t0", "bltu t1,t0", "bgeu t0,t1"};
        for (int i = 0; i < 6; i++) {
            x = Check.ran(3, "li t0,1", "li t1,-1", taken[i] + ",0x80000100");
            CHECK.due(taken[i], x.hart(0, 0, 1), RAM + 256);
            x = Check.ran(3, "li t0,1", "li t1,-1", not[i] + ",0x80000100");
            CHECK.due(not[i], x.hart(0, 0, 1), RAM + 12);
        }
    }

    private static void memory() {
        CHECK.about("promise 7, memory");
        RiscMonitor x = Check.ran(20, "la s0,d", "ld a0,0(s0)", "lw a1,0(s0)", "lwu a2,0(s0)", "lh a3,2(s0)", "lhu a4,2(s0)",
                "lb a5,3(s0)", "lbu a6,3(s0)", "sd a0,8(s0)", "sw a0,16(s0)", "sh a0,20(s0)", "sb a0,22(s0)",
                ".align 3", "d: .dword 0x01020304f5f6f7f8", ".zero 32");
        CHECK.due("ld", x.register(0, 0, 10), 0x01020304f5f6f7f8L);
        CHECK.due("lw", x.register(0, 0, 11), 0xfffffffff5f6f7f8L);
        CHECK.due("lwu", x.register(0, 0, 12), 0xf5f6f7f8L);
        CHECK.due("lh", x.register(0, 0, 13), 0xfffffffffffff5f6L);
        CHECK.due("lhu", x.register(0, 0, 14), 0xf5f6);
        CHECK.due("lb", x.register(0, 0, 15), -11);
        CHECK.due("lbu", x.register(0, 0, 16), 0xf5);
        CHECK.due("sd", Check.dword(x, 0, RAM + 56 + 8), 0x01020304f5f6f7f8L);
        CHECK.due("sw, sh, sb", Check.dword(x, 0, RAM + 56 + 16), 0x00f8f7f8f5f6f7f8L);
    }

    private static void atomics() {
        CHECK.about("promise 7, 0x2f");
        String[] names = {"amoswap", "amoadd", "amoxor", "amoand", "amoor", "amomin", "amomax", "amominu", "amomaxu"};
        long[] wide = {5, 3, -7, 0, -1 & ~2L | 5, -2, 5, 5, -2};
        wide[2] = -2 ^ 5;
        wide[3] = -2 & 5;
        wide[4] = -2 | 5;
        for (int i = 0; i < names.length; i++) {
            RiscMonitor x = Check.ran(8, "la s0,0x80001000", "li a0,-2", "sd a0,0(s0)", "li a1,5", names[i] + ".d a2,a1,(s0)");
            CHECK.due(names[i] + ".d rd", x.register(0, 0, 12), -2);
            CHECK.due(names[i] + ".d", Check.dword(x, 0, RAM + 4096), wide[i]);
            x = Check.ran(8, "la s0,0x80001000", "li a0,-2", "sw a0,0(s0)", "li a1,5", names[i] + ".w a2,a1,(s0)");
            CHECK.due(names[i] + ".w rd", x.register(0, 0, 12), -2);
            CHECK.due(names[i] + ".w", Check.dword(x, 0, RAM + 4096), wide[i] & 0xffffffffL);
        }
        RiscMonitor x = Check.house(1, 2, "la s0,0x80001048", "lr.w a0,(s0)", "sc.w a1,s0,(s0)", "sc.w a2,s0,(s0)",
                "lr.d a0,(s0)", "sc.w a3,s0,(s0)", "sc.d a4,s0,(s0)", "lr.d a0,(s0)", "sd s0,8(s0)", "sc.d a5,s0,(s0)");
        x.run(0, 3);
        CHECK.due("RESERVATION", x.hart(0, 0, 3), RAM + 4096 + 64);
        x.run(0, 1);
        CHECK.due("sc", x.register(0, 0, 11), 0);
        CHECK.due("none behind", x.hart(0, 0, 3), -1);
        x.run(0, 1);
        CHECK.due("sc without one", x.register(0, 0, 12), 1);
        x.run(0, 2);
        CHECK.due("another size", x.register(0, 0, 13), 1);
        x.run(0, 1);
        CHECK.due("gone by sc", x.register(0, 0, 14), 1);
        x.run(0, 3);
        CHECK.due("an own store leaves it", x.register(0, 0, 15), 0);
        x = Check.house(2, 2, "la s0,0x80001000", "csrr a0,0xf14", "bnez a0,b", "lr.w a1,(s0)", "j 0x80000014",
                "b: nop", "sb a0,63(s0)");
        x.run(0, 10);
        CHECK.due("hart 0's", x.hart(0, 0, 3), RAM + 4096);
        x.run(0, 2);
        CHECK.due("gone by another hart", x.hart(0, 0, 3), -1);
        x = Check.house(1, 2, "la s0,0x80001000", "lr.w a1,(s0)", "j 0x8000000c");
        x.run(0, 3);
        x.poke(0, RAM + 4096 + 64, 1);
        CHECK.due("a poke elsewhere", x.hart(0, 0, 3), RAM + 4096);
        x.poke(0, RAM + 4096 + 63, 1);
        CHECK.due("a poke", x.hart(0, 0, 3), -1);
    }

    private static void shortWords() {
        CHECK.about("promise 7, words of 16 bits");
        RiscMonitor x = Check.ran(6, ".half 0x4515", ".half 0x0505", ".half 0x85aa", ".half 0x95aa", ".half 0x050a", ".half 0x9002");
        CHECK.due("c.li, c.addi, c.slli", x.register(0, 0, 10), 24);
        CHECK.due("c.mv, c.add", x.register(0, 0, 11), 12);
        CHECK.due("c.ebreak", x.control(0, 0, 0x342), 3);
        CHECK.due("its pc", x.control(0, 0, 0x343), RAM + 10);
        x = Check.ran(2, "la t0,0x80000020", ".half 0x9282");
        x.run(0, 1);
        CHECK.due("c.jalr's rd", x.register(0, 0, 1), RAM + 10);
        CHECK.due("c.jalr", x.hart(0, 0, 1), RAM + 32);
        x = Check.ran(1, ".half 0x0000");
        CHECK.due("none", x.control(0, 0, 0x342), 2);
    }

    private static void counters() {
        CHECK.about("promise 7, counters");
        RiscMonitor x = Check.ran(4, "csrr a0,0xb00", "csrr a1,0xb02", "csrw 0xb00,zero", ".word 0");
        CHECK.due("mcycle is read ahead of its growing", x.register(0, 0, 10), 0);
        CHECK.due("minstret", x.register(0, 0, 11), 1);
        CHECK.due("mcycle behind a write and a trap", x.control(0, 0, 0xb00), 1);
        CHECK.due("minstret behind a trap", x.control(0, 0, 0xb02), 3);
        CHECK.due("MTIME", x.control(0, 0, 0xc01), 4);
        x = Check.ran(4, "li a0,5", "csrw 0x320,a0", "nop", "csrw 0x320,zero");
        CHECK.due("mcycle stood still", x.control(0, 0, 0xb00), 2);
        CHECK.due("minstret, too", x.control(0, 0, 0xb02), 2);
        x = Check.ran(2, "li a0,9", "csrw 0xb02,a0");
        CHECK.due("what was written stands", x.control(0, 0, 0xb02), 9);
        CHECK.due("the other grows", x.control(0, 0, 0xb00), 2);
    }

    private static void resets() {
        CHECK.about("promise 8");
        RiscMonitor x = Check.house(2, 2, "li a0,5", "csrw 0x340,a0", "la s0,0x80001000", "lr.w a1,(s0)", "wfi");
        x.run(0, 12);
        x.run(0, 1);
        x.key(0, 1);
        x.wire(0, 5, true);
        CHECK.due("turn", x.state(0, 4), 1);
        CHECK.due("hart 0 waits", x.hart(0, 0, 2), 1);
        x.record(0, true);
        CHECK.due("reset", x.reset(0), 1);
        CHECK.due("reset of none", x.reset(1), -2);
        CHECK.due("registers", x.register(0, 0, 10), 0);
        CHECK.due("control registers", x.control(0, 0, 0x340), 0);
        CHECK.due("pc", x.hart(0, 0, 1), RAM);
        CHECK.due("turn", x.state(0, 4), 0);
        CHECK.due("who waits", x.hart(0, 0, 2), 0);
        CHECK.due("RESERVATION", x.hart(0, 0, 3), -1);
        CHECK.due("MTIME stays", x.control(0, 0, 0xc01), 13);
        CHECK.due("wires stay", x.wire(0, 5, true), 1);
        CHECK.due("keys are gone", x.key(0, 1), 1);
        CHECK.due("RAM stays", x.cell(0, RAM), 0x13);
        CHECK.due("the record is ended", x.count(4), 0);
        x = Check.ran(10, "li t0,0x100000", "li t1,0x5555", "sw t1,0(t0)");
        CHECK.due("OFF", x.state(0, 0), 1);
        x.reset(0);
        CHECK.due("RUNNING then", x.state(0, 0), 0);
        CHECK.due("its code", x.state(0, 1), 0);
    }

    private static void waiting() {
        CHECK.about("promise 10, waiting");
        RiscMonitor x = Check.ran(1, "wfi", "nop");
        CHECK.due("waits", x.hart(0, 0, 2), 1);
        x.run(0, 5);
        CHECK.due("nothing is done", x.hart(0, 0, 1), RAM + 4);
        CHECK.due("mcycle stands", x.control(0, 0, 0xb00), 1);
        x = Check.house(1, 1, "li a0,2", "csrw 0x304,a0", "csrw 0x344,a0", "wfi", "nop");
        x.run(0, 4);
        CHECK.due("waits", x.hart(0, 0, 2), 1);
        x.run(0, 1);
        CHECK.due("goes on: pending and enabled, but not due", x.hart(0, 0, 1), RAM + 20);
        CHECK.due("waits no more", x.hart(0, 0, 2), 0);
    }

    private static void harts() {
        CHECK.about("promise 10");
        RiscMonitor x = Check.house(3, 1, "csrr a0,0xf14", "nop");
        CHECK.due("no such computer", x.hart(1, 0, 0), -2);
        CHECK.due("no such hart", x.hart(0, 3, 0), -2);
        CHECK.due("no such hart", x.hart(0, -1, 0), -2);
        CHECK.due("others", x.hart(0, 0, 5), -1);
        CHECK.due("others", x.hart(0, 0, -1), -1);
        x.run(0, 2);
        CHECK.due("hart 0's pc", x.hart(0, 0, 1), RAM + 4);
        CHECK.due("hart 1's", x.hart(0, 1, 1), RAM + 4);
        CHECK.due("hart 2's", x.hart(0, 2, 1), RAM);
        CHECK.due("mhartid", x.register(0, 1, 10), 1);
        CHECK.due("in a block", x.hart(0, 1, 4), -1);
        x = Check.ran(1, "nop", "nop");
        CHECK.due("the next place of its block", x.hart(0, 0, 4), RAM + 4);
        x = Check.ran(7, "li a0,0x80", "slli a0,a0,32", "csrw 0x300,a0", "la t0,0x80000100", "csrw 0x341,t0", "mret");
        CHECK.due("VU", x.hart(0, 0, 0), 4);
    }
}
