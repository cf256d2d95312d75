/** Promise 6: what is listed. */
public final class ListTest {
    private static final Check CHECK = new Check();
    private static final long RAM = Check.RAM;

    public static void main(String[] args) {
        CHECK.about("promise 6");
        same("lui x5, 1048575");
        same("auipc x0, 0");
        same("jalr x1, -2048(x31)");
        same("lbu x10, 0(x11)");
        same("sw x9, -1(x10)");
        same("addi x1, x2, -2048");
        same("slli x1, x2, 63");
        same("bexti x1, x2, 32");
        same("sraiw x1, x2, 31");
        same("slli.uw x1, x2, 40");
        same("orc.b x1, x2");
        same("clzw x1, x2");
        same("zext.h x1, x2");
        same("mulhsu x1, x2, x3");
        same("sh3add.uw x1, x2, x3");
        same("czero.eqz x1, x2, x3");
        same("lr.d x1, (x2)");
        same("sc.w x1, x2, (x3)");
        same("amoswap.w x1, x2, (x3)");
        same("fence");
        same("fence.i");
        same("ecall");
        same("sfence.vma x1, x2");
        same("hlvx.hu x1, (x2)");
        same("hsv.b x1, (x2)");
        same("csrrs x1, 4095, x2");
        same("csrrci x0, 768, 31");
        other("j 0x80000000", "jal x0, +0");
        other("jal x1,0x7ff00000", "jal x1, -1048576");
        other("bnez x3,0x80000ffe", "bne x3, x0, +4094");
        other("beq x1,x2,0x7ffffffe", "beq x1, x2, -2");
        other("li a0,5", "addi x10, x0, 5");
        other(".word 0x0e0120af", "amoswap.w x1, x0, (x2)");
        other(".word 0x8330000f", "fence");
        other(".word 0xffffffff", ".word 4294967295");
        other(".word 0x00002067", ".word 8295");
        other(".half 0", ".half 0");
        other(".half 0x0001", "c.addi x0, x0, 0");
        other(".half 0x57fd", "c.addi x15, x0, -1");
        other(".half 0x7779", "c.lui x14, 1048574");
        other(".half 0x6101", ".half 24833");
        other(".half 0x717d", "c.addi x2, x2, -16");
        other(".half 0x1ffc", "c.addi x15, x2, 1020");
        other(".half 0xbffd", "c.jal x0, -2");
        other(".half 0xdc7d", "c.beq x8, x0, -2");
        other(".half 0x8082", "c.jalr x0, 0(x1)");
        other(".half 0x9082", "c.jalr x1, 0(x1)");
        other(".half 0x9002", "c.ebreak");
        other(".half 0x8002", ".half 32770");
        other(".half 0x852e", "c.add x10, x0, x11");
        other(".half 0x952e", "c.add x10, x10, x11");
        other(".half 0x9c25", "c.addw x8, x8, x9");
        other(".half 0x9c41", ".half 40001");
        other(".half 0xfe2a", "c.sd x10, 312(x2)");
        places();
        CHECK.end();
    }

    private static void same(String line) {
        other(line, line);
    }

    private static void other(String line, String listed) {
        RiscMonitor x = Check.house(1, 1, line);
        CHECK.due("list of '" + line + "'", Check.listed(x, 0, RAM), listed);
        CHECK.due("behind its end", x.list(0, RAM, listed.length()), -1);
    }

    private static void places() {
        RiscMonitor x = Check.house(1, 1, ".byte 1", "nop", ".zero 4085", "nop", ".half 0x13");
        CHECK.due("an odd place", Check.listed(x, 0, RAM + 1), "addi x0, x0, 0");
        CHECK.due("a half word at the end", Check.listed(x, 0, RAM + 4094), ".half 19");
        CHECK.due("the last word", Check.listed(x, 0, RAM + 4090), "addi x0, x0, 0");
        CHECK.due("no half word", x.list(0, RAM + 4095, 0), -1);
        CHECK.due("ahead of RAM", x.list(0, RAM - 1, 0), -1);
        CHECK.due("a device's place", x.list(0, 0x10000000L, 0), -1);
        CHECK.due("below 0", x.list(0, RAM, -1), -1);
        CHECK.due("no such computer", x.list(1, RAM, 0), -2);
        CHECK.due("ahead of NONE", x.list(-1, 0, -1), -2);
    }
}
