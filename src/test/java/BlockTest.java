/** Promise 21: the book of blocks. */
public final class BlockTest {
    private static final Check CHECK = new Check();
    private static final long RAM = Check.RAM;

    public static void main(String[] args) {
        CHECK.about("promise 21");
        counts();
        lengths();
        drops();
        many();
        leaving();
        CHECK.end();
    }

    private static void book(String what, RiscMonitor x, long blocks, long hits, long made, long dropped) {
        CHECK.due(what + ": blocks", x.block(0, 0), blocks);
        CHECK.due(what + ": HITs", x.block(0, 1), hits);
        CHECK.due(what + ": MADE", x.block(0, 2), made);
        CHECK.due(what + ": DROPPED", x.block(0, 3), dropped);
    }

    private static void counts() {
        RiscMonitor x = Check.house(1, 2, "nop", "a: nop", "nop", "j a");
        CHECK.due("no such computer", x.block(1, 0), -2);
        book("new", x, 0, 0, 0, 0);
        x.run(0, 1);
        book("one step", x, 1, 0, 1, 0);
        CHECK.due("its place", x.block(0, 4), RAM);
        CHECK.due("its length", x.block(0, 5), 4);
        CHECK.due("no second", x.block(0, 6), -1);
        CHECK.due("no second", x.block(0, 7), -1);
        CHECK.due("others", x.block(0, -1), -1);
        CHECK.due("next", x.hart(0, 0, 4), RAM + 4);
        x.run(0, 3);
        CHECK.due("behind its last one in none", x.hart(0, 0, 4), -1);
        x.run(0, 1);
        book("the loop's", x, 2, 0, 2, 0);
        CHECK.due("its place", x.block(0, 6), RAM + 4);
        CHECK.due("its length", x.block(0, 7), 3);
        x.run(0, 6);
        book("twice more", x, 2, 2, 2, 0);
    }

    /** A block's length at RAM's beginning. */
    private static void length(String what, long want, String... lines) {
        RiscMonitor x = Check.ran(1, lines);
        CHECK.due(what, x.block(0, 5), want);
    }

    private static void lengths() {
        StringBuilder many = new StringBuilder();
        for (int i = 0; i < 20; i++) {
            many.append("nop\n");
        }
        length("at most 16", 16, many.toString());
        length("up to and with a branch", 2, "nop", "beqz x1,0x80000000", "nop");
        length("jalr", 2, "nop", "ret", "nop");
        length("ecall", 2, "nop", "ecall", "nop");
        length("a control register that isn't there", 2, "nop", "csrr a0,5", "nop");
        length("fence", 1, "fence", "nop");
        length("an illegal one", 1, "nop", ".word 0xffffffff");
        length("16 bits", 3, ".half 1,1", "nop", ".half 0");
        length("c.j", 2, ".half 1", ".half 0xa001", "nop");
        length("none", -1, ".word 0xffffffff");
        RiscMonitor x = Check.house(1, 2, "la t0,0x80000ffa", "jr t0", ".align 11", ".zero 2042", "nop", ".half 0x13,0", "nop", "nop");
        x.run(0, 5);
        CHECK.due("wholly in the page", x.block(0, 7), 1);
        CHECK.due("in none", x.hart(0, 0, 4), -1);
        CHECK.due("two blocks", x.block(0, 0), 2);
        x.run(0, 1);
        CHECK.due("the next page's", x.block(0, 8), RAM + 4098);
    }

    private static void drops() {
        RiscMonitor x = Check.house(1, 2, "la s0,0x80001000", "sd zero,0(s0)", "sd zero,-8(s0)", "nop", "j 0x80000010");
        x.run(0, 3);
        book("a store into another page", x, 1, 0, 1, 0);
        CHECK.due("in it", x.hart(0, 0, 4), RAM + 12);
        x.run(0, 1);
        book("a store into its own", x, 0, 0, 1, 1);
        CHECK.due("in none", x.hart(0, 0, 4), -1);
        x.run(0, 1);
        book("made anew", x, 1, 0, 2, 1);
        x.poke(0, RAM + 4096, 1);
        book("a poke elsewhere", x, 1, 0, 2, 1);
        x.poke(0, RAM + 4095, 0);
        book("a poke", x, 0, 0, 2, 2);
        x.run(0, 1);
        Check.make(x, 0, RAM + 2048, "nop");
        book("assemble()", x, 0, 0, 3, 3);
        x.run(0, 1);
        Check.make(x, 0, RAM + 2048, "");
        CHECK.due("of no bytes", x.block(0, 0), 1);
        x.picture(0);
        x.restore(0, 0);
        book("restored: empty, not DROPPED", x, 0, 0, 4, 3);
        x.run(0, 1);
        CHECK.due("made", x.block(0, 0), 1);
        x.reset(0);
        CHECK.due("a RESET leaves it", x.block(0, 0), 1);
        CHECK.due("harts are in none", x.hart(0, 0, 4), -1);
    }

    private static void many() {
        StringBuilder text = new StringBuilder();
        for (int i = 0; i < 34; i++) {
            text.append("j 0x").append(Long.toHexString(RAM + 4 * i + 4)).append('\n');
        }
        RiscMonitor x = Check.house(1, 1, text.toString());
        x.run(0, 32);
        book("32", x, 32, 0, 32, 0);
        x.run(0, 1);
        book("33", x, 32, 0, 33, 1);
        CHECK.due("the oldest is gone", x.block(0, 4), RAM + 4);
        CHECK.due("the newest", x.block(0, 4 + 62), RAM + 128);
        CHECK.due("no more", x.block(0, 4 + 64), -1);
    }

    private static void leaving() {
        RiscMonitor x = Check.house(1, 2, "la t0,h", "csrw 0x305,t0", "la s0,0x80001001", "lw a0,0(s0)", "nop", "h: nop", "nop");
        x.run(0, 6);
        CHECK.due("a trap: in none", x.hart(0, 0, 4), -1);
        CHECK.due("the book stays", x.block(0, 0), 2);
        x = Check.house(2, 1, "csrr a0,0xf14", "bnez a0,b", "nop", "nop", "nop", "nop", "b: la s0,0x80000100", "sb a0,0(s0)");
        x.run(0, 8);
        CHECK.due("hart 0 in a block", x.hart(0, 0, 4), RAM + 16);
        x.run(0, 2);
        CHECK.due("another hart's store", x.hart(0, 0, 4), -1);
    }
}
