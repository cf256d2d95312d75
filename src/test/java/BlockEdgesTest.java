import java.util.ArrayList;
import java.util.List;
import java.util.Random;

/** Term 8, promise 21: blocks' lengths, the 32nd and 33rd block, and any programs, held against a book of the test's own. */
public final class BlockEdgesTest {
    private static final Check CHECK = new Check();
    private static final long RAM = Check.RAM;
    private static final int PAGE = 4096;

    public static void main(String[] args) {
        ends();
        longest();
        pageEnds();
        shortEnds();
        fullBook();
        ownBlockGone();
        devicesDrop();
        pages();
        resets();
        for (int seed = 0; seed < 60; seed++) {
            anyProgram(new Random(seed), seed);
        }
        others();
        CHECK.end();
    }

    private static boolean endsBlock(int word) {
        int op = word & 0x7f;
        return op == 0x63 || op == 0x67 || op == 0x6f || op == 0x73 || op == 0x0f;
    }

    /** Each instruction as a block's second one: it ends it or not. */
    private static void ends() {
        CHECK.about("term 8: up to and with the first one of OP 0x63, 0x67, 0x6f, 0x73 or 0x0f");
        for (Table.Row row : Table.ROWS) {
            RiscMonitor x = Check.ran(1, "nop", ".word " + (row.match() & 0xffffffffL), "nop", "nop", "ecall");
            CHECK.due(row.name(), x.block(0, 5), endsBlock(row.match()) ? 2 : 5);
            x = Check.ran(1, ".word " + (row.match() & 0xffffffffL), "nop", "ecall");
            CHECK.due(row.name() + " first", x.block(0, 5), endsBlock(row.match()) ? 1 : 3);
        }
        int[] none = {0, 0xffffffff, 0x00002063, 0x00001067, 0x00002073, 0x0000200f, 0x00004073, 0x02000073, 0x0000707b};
        for (int word : none) {
            if (Table.of(word) == null) {
                RiscMonitor x = Check.ran(1, "nop", ".word " + (word & 0xffffffffL), "nop");
                CHECK.due("an illegal one ends it ahead of it: " + Integer.toHexString(word), x.block(0, 5), 1);
                x = Check.ran(1, ".word " + (word & 0xffffffffL), "nop");
                CHECK.due("first: none is made", x.block(0, 2), 0);
                CHECK.due("in none", x.hart(0, 0, 4), -1);
            }
        }
        for (int number : new int[] {0, 0x7ff, 0xfff, 0xc00}) {
            RiscMonitor x = Check.ran(1, "nop", "csrw " + number + ",zero", "nop");
            CHECK.due("control register " + number + " decodes", x.block(0, 5), 2);
        }
    }

    private static String nops(int n) {
        return "nop\n".repeat(n);
    }

    private static void longest() {
        CHECK.about("term 8: at most 16");
        for (int n = 1; n <= 20; n++) {
            RiscMonitor x = Check.house(1, 1, nops(n) + "ecall");
            x.run(0, 1);
            CHECK.due(n + " and ecall", x.block(0, 5), Math.min(16, n + 1));
        }
        RiscMonitor x = Check.house(1, 1, nops(40));
        for (int i = 1; i < 16; i++) {
            x.run(0, 1);
            CHECK.due("the next place", x.hart(0, 0, 4), RAM + 4 * i);
        }
        x.run(0, 1);
        CHECK.due("behind its last one in none", x.hart(0, 0, 4), -1);
        CHECK.due("one block", x.block(0, 2), 1);
        x.run(0, 1);
        CHECK.due("another", x.block(0, 6), RAM + 64);
        CHECK.due("its next place", x.hart(0, 0, 4), RAM + 68);
    }

    private static void pageEnds() {
        CHECK.about("term 8: all wholly in the place's page");
        String[] tails = {"nop\nnop", ".half 1\nnop", ".half 1,1,1", "nop\n.half 1", ".half 0x13,0,1", ".half 1,1,0x13,0"};
        int[] from = {PAGE - 8, PAGE - 6, PAGE - 6, PAGE - 6, PAGE - 6, PAGE - 6};
        int[] lengths = {2, 2, 3, 2, 2, 2};
        for (int i = 0; i < tails.length; i++) {
            RiscMonitor x = Check.house(1, 2, "la t0," + (RAM + from[i]), "jr t0", ".zero " + (from[i] - 12), tails[i], nops(4));
            x.run(0, 4);
            CHECK.due("'" + tails[i] + "'", x.block(0, 7), lengths[i]);
        }
        RiscMonitor x = Check.house(1, 2, "la t0," + (RAM + PAGE - 2), "jr t0", ".zero " + (PAGE - 14), "nop", "nop", "nop");
        x.run(0, 4);
        CHECK.due("over the page's end: none", x.block(0, 0), 1);
        CHECK.due("in none", x.hart(0, 0, 4), -1);
        CHECK.due("it was done", x.hart(0, 0, 1), RAM + PAGE + 2);
        x.run(0, 1);
        CHECK.due("then the next page's", x.block(0, 6), RAM + PAGE + 2);
        x = Check.house(1, 1, "la t0," + (RAM + PAGE - 2), "jr t0", ".zero " + (PAGE - 14), ".half 1");
        x.run(0, 4);
        CHECK.due("RAM's last half word", x.block(0, 7), 1);
        x = Check.house(1, 16, "la t0," + (RAM + 16 * PAGE - 2), "jr t0");
        Check.make(x, 0, RAM + 16 * PAGE - 2, ".half 1");
        x.run(0, 4);
        CHECK.due("the last half word of 16 pages", x.block(0, 7), 1);
        x = Check.house(1, 1, "la t0," + (RAM + PAGE - 2), "jr t0", ".zero " + (PAGE - 14), ".half 3");
        x.run(0, 4);
        CHECK.due("it couldn't be fetched: none", x.block(0, 0), 1);
        CHECK.due("nor a HIT", x.block(0, 1), 0);
    }

    private static void shortEnds() {
        CHECK.about("term 8: words of 16 bits");
        int[] halves = {0xa001, 0xc001, 0xe001, 0x8082, 0x9082, 0x9002, 0x0001, 0x4501, 0x852e, 0x952e, 0x4108, 0xc108, 0x0505, 0x6505};
        for (int i = 0; i < halves.length; i++) {
            RiscMonitor x = Check.ran(1, ".half 1," + halves[i] + ",1,0");
            CHECK.due(Integer.toHexString(halves[i]), x.block(0, 5), i < 6 ? 2 : 3);
        }
    }

    /** Harts 0, 2 and 3 make a block each step; hart 1 is in one of 16 instructions that becomes the oldest. */
    private static void fullBook() {
        CHECK.about("term 8: the oldest is DROPPED, if there are 32");
        StringBuilder text = new StringBuilder("csrr t0,0xf14\nslli t0,t0,8\nla t1,0x80000100\nadd t0,t0,t1\njr t0\n.align 8\n");
        for (int h = 0; h < 4; h++) {
            for (int i = 0; i < 15; i++) {
                text.append(h == 1 ? "nop\n" : "j " + (RAM + 256 + 256 * h + 4 * i + 4) + "\n");
            }
            text.append(".align 8\n");
        }
        RiscMonitor x = Check.house(4, 1, text.toString());
        x.run(0, 4 * 7);
        CHECK.due("two blocks of all, one of each", x.block(0, 0), 6);
        CHECK.due("HITs", x.block(0, 1), 6);
        // Hart 0's comes first of these, then hart 1's.
        CHECK.due("hart 1's", x.block(0, 10), RAM + 512);
        CHECK.due("its length", x.block(0, 11), 15);
        for (int round = 1; round <= 8; round++) {
            x.run(0, 4);
            CHECK.due("blocks, round " + round, x.block(0, 0), 6 + 3 * round);
            CHECK.due("hart 1's next place", x.hart(0, 1, 4), RAM + 512 + 4 + 4 * round);
        }
        x.run(0, 3);
        CHECK.due("32 blocks", x.block(0, 0), 32);
        CHECK.due("none is DROPPED", x.block(0, 3), 0);
        x.run(0, 1);
        CHECK.due("the 33rd: still 32", x.block(0, 0), 32);
        CHECK.due("one is DROPPED", x.block(0, 3), 1);
        CHECK.due("the oldest is gone", x.block(0, 4), RAM + 4);
        CHECK.due("the length of the next one", x.block(0, 5), 5);
        CHECK.due("and of the third", x.block(0, 9), 15);
        x.run(0, 3);
        CHECK.due("two more: hart 0's first one is gone", x.block(0, 4), RAM + 512);
        CHECK.due("hart 1 is in its block", x.hart(0, 1, 4), RAM + 512 + 4 * 11);
        x.run(0, 1);
        CHECK.due("the next: hart 1's is gone", x.block(0, 4), RAM + 256 + 512);
        CHECK.due("hart 1 is in none", x.hart(0, 1, 4), -1);
        CHECK.due("four are DROPPED", x.block(0, 3), 4);
        x.run(0, 2);
        CHECK.due("hart 1 makes one at its place", x.hart(0, 1, 4), RAM + 512 + 4 * 12);
        CHECK.due("the newest", x.block(0, 4 + 62), RAM + 512 + 4 * 11);
        CHECK.due("its length", x.block(0, 5 + 62), 4);
        CHECK.due("32 blocks", x.block(0, 0), 32);
        CHECK.due("no 33rd", x.block(0, 4 + 64), -1);
        CHECK.due("no 33rd", x.block(0, 5 + 64), -1);
        x.poke(0, RAM + 4095, 0);
        CHECK.due("all are of that page", x.block(0, 0), 0);
        CHECK.due("DROPPED", x.block(0, 3), 6 + 32);
        CHECK.due("in none", x.hart(0, 1, 4), -1);
    }

    private static void ownBlockGone() {
        CHECK.about("term 8: each store into a page drops all blocks of that page");
        String[] stores = {"sb a0,0(s0)", "sh a0,0(s0)", "sw a0,0(s0)", "sd a0,0(s0)", "amoadd.w a0,a0,(s0)", "amoor.d a0,zero,(s0)",
                "sc.w a1,a0,(s0)"};
        for (String line : stores) {
            RiscMonitor x = Check.house(1, 2, "la s0,0x80000ff8", "lr.w a0,(s0)", line, "nop", "nop");
            x.run(0, 4);
            CHECK.due(line + ": DROPPED", x.block(0, 3), 1);
            CHECK.due("in none", x.hart(0, 0, 4), -1);
            x = Check.house(1, 2, "la s0,0x80001000", "lr.w a0,(s0)", line, "nop", "nop");
            x.run(0, 4);
            CHECK.due(line + " into the next page", x.block(0, 3), 0);
            CHECK.due("in its block", x.hart(0, 0, 4), RAM + 16);
        }
        RiscMonitor x = Check.house(1, 2, "la s0,0x80000ff8", "nop", "sc.w a1,a0,(s0)", "lw a0,0(s0)", "nop");
        x.run(0, 5);
        CHECK.due("an sc that stores nothing, a load", x.block(0, 3), 0);
        x = Check.house(1, 2, "la s0,0x80000ff9", "nop", "sw a1,0(s0)", "nop");
        x.run(0, 4);
        CHECK.due("a store that traps", x.block(0, 3), 0);
        CHECK.due("in none", x.hart(0, 0, 4), -1);
    }

    /** A command of a device that stores from a place on, of so many bytes; the block is in page 1. */
    private static long dropped(String device, long to, long count) {
        boolean disk = device.equals("disk");
        RiscMonitor x = Check.house(1, 3, "la s0," + (disk ? 0x10001000L : 0x10002000L), "la a1," + to, "sd a1,8(s0)", "la a2," + count,
                disk ? "nop" : "sd a2,16(s0)", "li a3," + (disk ? 1 : 2),
                "la t0,0x80001800", "jr t0", ".align 11", ".zero 4096", disk ? "sw a3,16(s0)" : "sw a3,24(s0)", "nop", "nop");
        x.run(0, 13);
        CHECK.due("pc", x.hart(0, 0, 1), RAM + 0x1800 + 4);
        return x.block(0, 3);
    }

    private static void devicesDrop() {
        CHECK.about("term 8: by whatever does it");
        CHECK.due("the disk into its page", dropped("disk", RAM + 0x1000, 0), 1);
        CHECK.due("the disk's last byte", dropped("disk", RAM + 0x1000 - 63, 0), 2);
        CHECK.due("ahead of it", dropped("disk", RAM + 0x1000 - 64, 0), 1);
        CHECK.due("behind it", dropped("disk", RAM + 0x2000, 0), 0);
        CHECK.due("the copier into both", dropped("copier", RAM + 0xfff, 2), 2);
        CHECK.due("the copier into its page", dropped("copier", RAM + 0x1fff, 1), 1);
        CHECK.due("behind it", dropped("copier", RAM + 0x2000, 4096), 0);
        CHECK.due("of no bytes", dropped("copier", RAM + 0x1800, 0), 0);
        CHECK.due("the greatest count", dropped("copier", RAM + 0x1001, 4096), 1);
        RiscMonitor x = Check.house(1, 3, "nop", "nop", "nop");
        x.run(0, 1);
        Check.make(x, 0, RAM + 0x1000, "nop");
        CHECK.due("assemble() elsewhere", x.block(0, 3), 0);
        Check.make(x, 0, RAM + 0xfff, ".byte 0,0");
        CHECK.due("assemble() into two pages", x.block(0, 3), 1);
        x.run(0, 1);
        x.poke(0, RAM + 0x1000, 1);
        CHECK.due("poke() elsewhere", x.block(0, 0), 1);
        x.poke(0, RAM + 0xfff, 1);
        CHECK.due("poke()", x.block(0, 0), 0);
        CHECK.due("DROPPED", x.block(0, 3), 2);
        CHECK.due("the hart is in none", x.hart(0, 0, 4), -1);
    }

    /** Blocks of several pages, those of one of them being dropped. */
    private static void pages() {
        CHECK.about("term 8: all blocks of that page");
        StringBuilder text = new StringBuilder();
        for (int i = 0; i < 4; i++) {
            text.append("a").append(i).append(": j b").append(i).append('\n');
        }
        text.append(".align 12\n");
        for (int i = 0; i < 4; i++) {
            text.append("b").append(i).append(": j a").append(i + 1).append('\n');
        }
        RiscMonitor x = Check.house(1, 2, text.toString().replace("j a4", "j b3"));
        x.run(0, 10);
        CHECK.due("8 blocks", x.block(0, 0), 8);
        x.poke(0, RAM + 100, 1);
        CHECK.due("four are DROPPED", x.block(0, 3), 4);
        for (int i = 0; i < 4; i++) {
            CHECK.due("the others stay, in their order", x.block(0, 4 + 2 * i), RAM + PAGE + 4 * i);
            CHECK.due("their lengths", x.block(0, 5 + 2 * i), 1);
        }
        CHECK.due("no more", x.block(0, 12), -1);
    }

    private static void resets() {
        CHECK.about("term 8: a RESET leaves the book as it is, all harts are in none");
        String[] ends = {"", "la s0,0x100000\nli a0,0x7777\n", "la s0,0x10003000\nli a0,1\n"};
        String[] stores = {"nop", "sw a0,0(s0)", "sd a0,0(s0)"};
        for (int kind = 0; kind < 3; kind++) {
            RiscMonitor x = Check.house(2, 1, "csrr t0,0xf14", "bnez t0,b", ends[kind] + "nop", stores[kind], "nop", "nop", "nop", "nop",
                    "j 0x80000008", "b: nop\nnop\nnop\nnop\nnop\nnop\nnop\nnop\nnop\nnop\nnop\nnop");
            int ahead = kind == 0 ? 2 : kind == 1 ? 5 : 4;
            x.run(0, 2 * (2 + ahead));
            CHECK.due("hart 0 is in a block", x.hart(0, 0, 4) > 0 ? 1 : 0, 1);
            CHECK.due("hart 1 is in a block", x.hart(0, 1, 4) > 0 ? 1 : 0, 1);
            long blocks = x.block(0, 0);
            if (kind == 0) {
                x.reset(0);
            } else {
                x.run(0, kind);
            }
            CHECK.due("kind " + kind + ": RESET", x.hart(0, 1, 1), RAM);
            CHECK.due("hart 0 is in none", x.hart(0, 0, 4), -1);
            CHECK.due("hart 1 is in none", x.hart(0, 1, 4), -1);
            CHECK.due("the book stays", x.block(0, 0), blocks);
            CHECK.due("none is DROPPED", x.block(0, 3), 0);
            long hits = x.block(0, 1);
            x.run(0, 1);
            CHECK.due("a HIT then", x.block(0, 1), hits + 1);
        }
    }

    /** A book of the test's own: places and lengths in their order. */
    private static final class Book {
        final List<long[]> blocks = new ArrayList<>();
        final int[] words = new int[64];
        final long[] block = {-1, -1};
        final long[] next = {-1, -1};
        final int[] left = {0, 0};
        long hits;
        long made;
        long dropped;

        int measure(long at) {
            int n = 0;
            for (int i = (int) (at - RAM) / 4; i < words.length && n < 16; i++) {
                if (Table.of(words[i]) == null) {
                    return n;
                }
                n++;
                if (endsBlock(words[i])) {
                    return n;
                }
            }
            return n;
        }

        void leave(int h) {
            block[h] = -1;
        }

        void drop(int k) {
            for (int h = 0; h < 2; h++) {
                if (block[h] == blocks.get(k)[0]) {
                    leave(h);
                }
            }
            blocks.remove(k);
            dropped++;
        }

        void fetched(int h, long at) {
            if (block[h] >= 0 && next[h] == at) {
                left[h]--;
                next[h] += 4;
            } else {
                leave(h);
                long[] found = null;
                for (long[] b : blocks) {
                    found = b[0] == at ? b : found;
                }
                hits += found != null ? 1 : 0;
                if (found == null && measure(at) > 0) {
                    if (blocks.size() == 32) {
                        drop(0);
                    }
                    found = new long[] {at, measure(at)};
                    blocks.add(found);
                    made++;
                }
                if (found != null) {
                    block[h] = at;
                    next[h] = at + 4;
                    left[h] = (int) found[1] - 1;
                }
            }
            if (block[h] >= 0 && left[h] == 0) {
                leave(h);
            }
        }
    }

    /** A word of a program: computing, jumps that stay in it, stores into its own page or the next, traps. */
    private static int word(Random random, int i) {
        switch (random.nextInt(12)) {
            case 0: return 0x0000006f | (2 * (random.nextInt(32) * 2 - i * 2 + 8 * 2) / 2 << 21 & 0x7fe00000);
            case 1: return 0x00000463;
            case 2: return 0x00001463;
            case 3: return 0x00942023;
            case 4: return 0x0094a023;
            case 5: return random.nextInt(4) == 0 ? 0x00000073 : 0x00000013;
            case 6: return random.nextInt(4) == 0 ? 0xffffffff : 0x0000100f;
            case 7: return 0x30002573;
            default: return 0x00150513;
        }
    }

    /** Two harts go through a program of 64 words; each step is told to the test's own book. */
    private static void anyProgram(Random random, int seed) {
        CHECK.about("term 8: any program, " + seed);
        Book book = new Book();
        // s0 is RAM, s1 page 1, both sign filled by lui, so they are shifted right to their places.
        StringBuilder text = new StringBuilder();
        String[] lines = {"lui s0,0x80000", "slli s0,s0,32", "srli s0,s0,32", "lui s1,0x80001", "slli s1,s1,32", "srli s1,s1,32",
                "addi s0,s0,1024", "addi t0,s0,-992", "csrw 0x305,t0"};
        RiscMonitor code = Check.house(1, 1, lines);
        for (int i = 0; i < 64; i++) {
            book.words[i] = i < lines.length ? (int) (code.cell(0, RAM + 4 * i) | code.cell(0, RAM + 4 * i + 1) << 8 | code.cell(0,
                    RAM + 4 * i + 2) << 16 | code.cell(0, RAM + 4 * i + 3) << 24)
                    : i == 63 ? 0xf25ff06f : word(random, i);
            text.append(i % 16 == 0 ? "\n.word " : ",").append(book.words[i] & 0xffffffffL);
        }
        RiscMonitor x = Check.house(2, 2, text.substring(1));
        for (int step = 0; step < 44; step++) {
            int h = (int) x.state(0, 4);
            long pc = x.hart(0, h, 1);
            if (pc < RAM || pc >= RAM + 252) {
                return;
            }
            int done = book.words[(int) (pc - RAM) / 4];
            x.run(0, 1);
            book.fetched(h, pc);
            if (x.trace(0, 0, 3) != -1) {
                book.leave(h);
            } else if ((done & 0x7f) == 0x23) {
                long page = (done >>> 15 & 31) == 8 ? 0 : 1;
                for (int k = book.blocks.size() - 1; k >= 0; k--) {
                    if ((book.blocks.get(k)[0] - RAM) / PAGE == page) {
                        book.drop(k);
                    }
                }
            }
            CHECK.due("blocks behind step " + step, x.block(0, 0), book.blocks.size());
            CHECK.due("HITs", x.block(0, 1), book.hits);
            CHECK.due("MADE", x.block(0, 2), book.made);
            CHECK.due("DROPPED", x.block(0, 3), book.dropped);
            CHECK.due("the next place", x.hart(0, h, 4), book.block[h] < 0 ? -1 : book.next[h]);
        }
    }

    private static void others() {
        CHECK.about("promise 21");
        RiscMonitor x = Check.house(1, 1, "nop");
        x.run(0, 1);
        CHECK.due("-2", x.block(1, 0), -2);
        CHECK.due("-2", x.block(-1, 0), -2);
        CHECK.due("-1", x.block(0, -1), -1);
        CHECK.due("6", x.block(0, 6), -1);
        CHECK.due("the greatest", x.block(0, Integer.MAX_VALUE), -1);
        CHECK.due("the least", x.block(0, Integer.MIN_VALUE), -1);
    }
}
