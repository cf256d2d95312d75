/** Promise 5: what the assembler makes, and which fault it tells. */
public final class AssembleTest {
    private static final Check CHECK = new Check();
    private static final long RAM = Check.RAM;

    public static void main(String[] args) {
        CHECK.about("promise 5");
        refusals();
        words();
        data();
        shortForms();
        ranges();
        faults();
        labelFaults();
        sizesOfFaultyLines();
        beyondRam();
        manyLabels();
        effects();
        CHECK.end();
    }

    /** What assemble() answers of a text, on a computer of one page. */
    private static int made(String... lines) {
        return madeIn(1, lines);
    }

    private static int madeIn(int pages, String... lines) {
        RiscMonitor x = new RiscMonitor();
        x.computer(1, pages);
        return Check.make(x, 0, RAM, lines);
    }

    private static void good(String line, long word) {
        RiscMonitor x = new RiscMonitor();
        x.computer(1, 1);
        CHECK.due("assemble of '" + line + "'", Check.make(x, 0, RAM, line), 4);
        CHECK.due(line, Check.dword(x, 0, RAM), word);
    }

    private static void fault(String text, int place) {
        CHECK.due("assemble of '" + text + "'", made(text), -1 - place);
    }

    private static void refusals() {
        RiscMonitor x = new RiscMonitor();
        Check.type(x, "nop");
        CHECK.due("no computer", x.assemble(0, RAM), -2);
        CHECK.due("the tape stays", x.count(2), 3);
        x.computer(1, 1);
        CHECK.due("below RAM", x.assemble(0, RAM - 1), -4);
        CHECK.due("behind RAM", x.assemble(0, RAM + 4096), -4);
        CHECK.due("the tape stays", x.count(2), 3);
        CHECK.due("the last four bytes", x.assemble(0, RAM + 4092), 4);
        CHECK.due("an empty tape", x.assemble(0, RAM), 0);
    }

    private static void words() {
        good("lui x31,0xfffff", 0xffffffb7L);
        good("auipc a0,1", 0x00001517L);
        good("jal ra,0x80000010", 0x010000efL);
        good("jalr x1,-1(x2)", 0xfff100e7L);
        good("beq x1,x2,0x7ffffffe", 0xfe208fe3L);
        good("ld s11,2047(t6)", 0x7fffbd83L);
        good("sd t3,-2048(gp)", 0x81c1b023L);
        good("addi x1, x2, 0xffffffffffffffff", 0xfff10093L);
        good("srai x1,x2,63", 0x43f15093L);
        good("slli.uw x1,x2,63", 0x0bf1109bL);
        good("roriw x1,x2,31", 0x61f1509bL);
        good("rev8 x1,x2", 0x6b815093L);
        good("zext.h x1,x2", 0x080140bbL);
        good("czero.nez x1,x2,x3", 0x0e3170b3L);
        good("amomaxu.d x1,x2,(x3)", 0xe021b0afL);
        good("lr.w x1,(x2)", 0x100120afL);
        good("sc.d x1,x2,(x3)", 0x1821b0afL);
        good("csrrwi x1,4095,31", 0xffffd0f3L);
        good("csrrc x1,0x300,x2", 0x300130f3L);
        good("sfence.vma x1,x2", 0x12208073L);
        good("hfence.gvma x1,x2", 0x62208073L);
        good("hfence.vvma zero,zero", 0x22000073L);
        good("hlvx.wu x1,(x2)", 0x683140f3L);
        good("hsv.d x1,(x2)", 0x6e114073L);
        good("fence", 0x0ff0000fL);
        good("fence.i", 0x0000100fL);
        good("wfi", 0x10500073L);
        good("  mret  # back", 0x30200073L);
    }

    private static void data() {
        RiscMonitor x = new RiscMonitor();
        x.computer(1, 1);
        CHECK.due("data", Check.make(x, 0, RAM + 1, ".byte -1,0x1ff , 3", "A: B : .half 65537", ".align 2", "C:.word C", ".dword B"), 19);
        long[] bytes = {0, 255, 255, 3, 1, 0, 0, 0, 8, 0, 0, 0x80, 4, 0, 0, 0x80, 0, 0, 0, 0};
        for (int i = 0; i < bytes.length; i++) {
            CHECK.due("byte " + i, x.cell(0, RAM + i), bytes[i]);
        }
        CHECK.due("signs", Check.make(x, 0, RAM, ".ascii \"a #,(b\" # c", ".ascii\"\"", ".zero 0", ".zero 2"), 8);
        CHECK.due("the sixth sign", x.cell(0, RAM + 5), 'b');
        CHECK.due("sixteen", made(".byte 1,2,3,4,5,6,7,8,9,10,11,12,13,14,15,16"), 16);
        fault(".byte 1,2,3,4,5,6,7,8,9,10,11,12,13,14,15,16,17", 44);
        fault(".byte 1,2,", 10);
        fault(".byte 1 2", 8);
        fault(".byte", 5);
        fault(".ascii \"ab", 10);
        fault(".ascii ab", 7);
        fault(".ascii \"a\"b\"", 10);
        CHECK.due("aligned already", made(".zero 4", ".align 2", ".align 0"), 4);
    }

    private static void shortForms() {
        good("nop", 0x13);
        good("mv x1,x2", 0x00010093L);
        good("not x1,x2", 0xfff14093L);
        good("neg x1,x2", 0x402000b3L);
        good("li x1,-2048", 0x80000093L);
        good("j 0x80000000", 0x6f);
        good("call 0x80000004", 0x004000efL);
        good("jr x1", 0x00008067L);
        good("ret", 0x00008067L);
        good("beqz x1,0x80000008", 0x00008463L);
        good("bnez x1,0x80000008", 0x00009463L);
        good("csrr x1,0x300", 0x300020f3L);
        good("csrw 0x300,x1", 0x30009073L);
        long[] numbers = {2048, -2049, 0x7fffffff, -0x80000000L, 0x12345fff, 4096};
        for (long n : numbers) {
            RiscMonitor x = Check.ran(2, "li a0," + n);
            CHECK.due("li of " + n, x.register(0, 0, 10), n);
            CHECK.due("two instructions", x.hart(0, 0, 1), RAM + 8);
        }
        long[] places = {RAM, RAM + 2047, RAM + 2048, 0, RAM + 0x7ffff7ffL, RAM - 0x80000800L};
        for (long n : places) {
            RiscMonitor x = Check.ran(2, "la a0," + n);
            CHECK.due("la of " + n, x.register(0, 0, 10), n);
        }
    }

    private static void ranges() {
        fault("addi x1,x2,2048", 11);
        fault("addi x1,x2,-2049", 11);
        fault("slli x1,x2,64", 11);
        fault("slliw x1,x2,32", 12);
        fault("bseti x1,x2,-1", 12);
        fault("lui x1,0x100000", 7);
        fault("lui x1,-1", 7);
        fault("csrrw x1,4096,x2", 9);
        fault("csrrwi x1,0,32", 12);
        fault("beq x1,x2,0x80001000", 10);
        CHECK.due("the farthest branch", made("beq x1,x2,0x80000ffe"), 4);
        fault("beq x1,x2,0x80000001", 10);
        fault("j 0x80100000", 2);
        CHECK.due("the farthest jump", made("j 0x800ffffe"), 4);
        fault("li x1,2147483648", 6);
        fault("la x1,0xfffff800", 6);
        fault("la x1,-2049", 6);
        fault(".zero 4097", 6);
        fault(".align 13", 7);
        fault(".zero -1", 6);
        fault(".dword 9223372036854775808", 7);
        CHECK.due("the greatest", made(".dword 9223372036854775807,-9223372036854775807"), 16);
        CHECK.due("zeros ahead", made(".dword 000000000000000000000000000000001"), 8);
        fault(".dword 0x11112222333344445", 7);
        fault(".dword 0x", 7);
        fault(".dword -0x1", 7);
        fault(".dword 0xA", 7);
        fault(".dword -", 7);
        fault(".dword +1", 7);
    }

    private static void faults() {
        fault("add x1,x2", 9);
        fault("add x1,x2 # none", 10);
        fault("add x1,x2 \nnop", 10);
        fault("add x1 x2,x3", 7);
        fault("add x1,x2,x32", 10);
        fault("add x1,x2,x03", 10);
        fault("add x1,x2,fp", 10);
        fault("add x1,x2,x", 10);
        fault("add x1,x2,x3,", 12);
        fault("nop\n ADD x1,x2,x3", 5);
        fault("lw x1,(x2)", 6);
        fault("lw x1,4[x2]", 6);
        fault("lw x1,4(x2", 10);
        fault("lr.w x1,0(x2)", 8);
        fault("foo", 0);
        fault(",", 0);
        fault(": nop", 0);
        fault("5: nop", 0);
        fault("verylongn: nop", 0);
        fault("ecall 1", 6);
        fault("add.uw: nop", 6);
        fault("a:a:", 2);
        CHECK.due("labels named as instructions", made("add: x1: add x1,x1,x1", "_9aZ:j add"), 8);
        CHECK.due("comments and blank lines", made("", "# \"x", "   ", "a:# b", ""), 0);
    }

    private static void labelFaults() {
        fault("j far", 2);
        fault("nop\nj far\nbad", 6);
        fault(".word far, 5x", 6);
        fault("li x1,far", 6);
        fault("li x1,a\na:", 6);
        fault("a: addi x1,x1,a", 14);
        fault(".zero a\na:", 6);
        fault("j a\n.zero 1\na:", 2);
        fault("j toolongna", 2);
        fault("a: nop\na: nop", 7);
        CHECK.due("a label behind", made("j a", "a: nop"), 8);
        CHECK.due("a label at the end", made("beqz x1,a", "a:"), 4);
    }

    /** beq reaches 4,094 bytes: whether it has a fault tells how many bytes the lines behind it have. */
    private static void sizesOfFaultyLines() {
        String fill = "beqz x1,a\n.zero 4088\n";
        CHECK.due("as far as can be", madeIn(2, fill + ".half 1\na:\nbad"), -1 - 32);
        CHECK.due("a line with a fault has no bytes", madeIn(2, fill + "add x1,x2\na:"), -1 - 30);
        CHECK.due("a label that isn't there: the line has its bytes", madeIn(2, fill + "j b\na:"), -1 - 8);
        CHECK.due("with a fault behind it: it has none", madeIn(2, fill + ".word b,5x\na:"), -1 - 27);
        CHECK.due("li of a label: 8", madeIn(2, fill + "li x1,b\na:"), -1 - 8);
        CHECK.due(".zero of a label: none", madeIn(2, fill + ".zero b\na:"), -1 - 27);
        CHECK.due(".align of a label: none", madeIn(2, fill + ".align b\na:"), -1 - 28);
        CHECK.due("beyond RAM: none", madeIn(1, fill + ".dword 0\na:"), -1 - 21);
        CHECK.due("a label twice: none", madeIn(2, fill + "a: b: nop\na: nop"), -1 - 31);
    }

    private static void beyondRam() {
        CHECK.due("just in RAM", made(".zero 4092", "nop"), 4096);
        fault(".zero 4094\nnop", 11);
        fault(".zero 4094\na: b: nop", 17);
        fault(".zero 4094\naddi x1,x1,5000", 22);
        fault(".zero 4094\nj b", 13);
        CHECK.due("no bytes at the end", made(".zero 4096", ".zero 0", "a:"), 4096);
        fault(".zero 4096\n.byte 0", 11);
    }

    private static void manyLabels() {
        StringBuilder text = new StringBuilder();
        for (int i = 0; i < 100; i++) {
            text.append('l').append(i).append(":\n");
        }
        CHECK.due("100 labels", made(text.toString()), 0);
        CHECK.due("101 labels", made(text + "x: y:"), -1 - text.length());
    }

    private static void effects() {
        RiscMonitor x = new RiscMonitor();
        x.computer(1, 2);
        x.poke(0, RAM, 5);
        CHECK.due("a fault", Check.make(x, 0, RAM, ".byte 1", "bad"), -9);
        CHECK.due("changes nothing", x.cell(0, RAM), 5);
        CHECK.due("the tape is empty", x.count(2), 0);
        x.record(0, true);
        CHECK.due("a fault", Check.make(x, 0, RAM, "bad"), -1);
        CHECK.due("leaves the record", x.count(4), 1);
        CHECK.due("a good one", Check.make(x, 0, RAM, "nop"), 4);
        CHECK.due("ends it", x.count(4), 0);
    }
}
