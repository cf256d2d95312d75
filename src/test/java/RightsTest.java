/** Term 4, promise 12: which control registers there are, which of their bits, and who may have them. */
public final class RightsTest {
    private static final Check CHECK = new Check();
    private static final int[] NUMBERS = {
        0x300, 0x301, 0x302, 0x303, 0x304, 0x305, 0x306, 0x320, 0x340, 0x341, 0x342, 0x343, 0x344, 0x34a, 0x34b, 0x3a0, 0x3b0, 0x3b1,
                0x3b2, 0x3b3, 0x3b4,
        0x3b5, 0x3b6, 0x3b7, 0xb00, 0xb02, 0xc00, 0xc01, 0xc02, 0xf11, 0xf12, 0xf13, 0xf14, 0xf15, 0x100, 0x104, 0x105, 0x106, 0x140,
                0x141, 0x142, 0x143,
        0x144, 0x180, 0x600, 0x602, 0x603, 0x604, 0x605, 0x606, 0x607, 0x643, 0x644, 0x645, 0x64a, 0x680, 0xe12, 0x200, 0x204, 0x205,
                0x240, 0x241, 0x242,
        0x243, 0x244, 0x280};
    private static final int[] MODES = {0, 1, 3, 4, 5};
    private static final long TVM = 1 << 20;

    public static void main(String[] args) {
        numbers();
        writtenBits();
        writtenParts();
        protection();
        everyMode();
        pagingRights();
        counterRights();
        guestsOwn();
        distinct();
        ownPartOfPending();
        CHECK.end();
    }

    private static boolean isThere(int number) {
        for (int n : NUMBERS) {
            if (n == number) {
                return true;
            }
        }
        return false;
    }

    private static int refused(RiscMonitor x, int h, int number) {
        try {
            x.control(0, h, number);
        } catch (IllegalArgumentException e) {
            return 1;
        }
        return 0;
    }

    private static void numbers() {
        CHECK.about("promise 12: which numbers there are");
        RiscMonitor x = new RiscMonitor();
        for (int number = -4; number < 4100; number++) {
            if (number % 400 == 0 || number == -4) {
                x = new RiscMonitor();
                x.computer(2, 1);
            }
            CHECK.due("control of " + number + " throws", refused(x, 1, number), isThere(number) ? 0 : 1);
        }
        CHECK.due("a great one", refused(x, 0, Integer.MAX_VALUE), 1);
        CHECK.due("the least one", refused(x, 0, Integer.MIN_VALUE), 1);
        CHECK.due("a number and bit 12", refused(x, 0, 0x1300), 1);
        CHECK.due("hart 2", refused(x, 2, 0x300), 1);
        CHECK.due("hart -1", refused(x, -1, 0x300), 1);
    }

    /** Registers with the bits that can be written, and those that are always set. */
    private static void writtenBits() {
        CHECK.about("term 4: whose other bits stay 0");
        long all = -1L;
        long[][] rows = {{0x300, 0xc0007e19aaL, 0xa00000000L}, {0x301, 0, 0x8000000000141187L}, {0x302, 0xf0b7ff, 0}, {0x303, 0x222,
                0x444}, {0x304, 0xeee, 0},
            {0x305, ~2L, 0}, {0x306, 7, 0}, {0x320, 5, 0}, {0x340, all, 0}, {0x341, ~1L, 0}, {0x342, all, 0}, {0x343, all, 0}, {0x344,
                    0x226, 0}, {0x34a, all, 0},
            {0x34b, all, 0}, {0x3b0, (1L << 54) - 1, 0}, {0x3b7, (1L << 54) - 1, 0}, {0xb00, all, 0}, {0xb02, all, 0}, {0x100, 0xc0122,
                    0x200000000L}, {0x104, 0, 0},
            {0x105, ~2L, 0}, {0x106, 7, 0}, {0x140, all, 0}, {0x141, ~1L, 0}, {0x142, all, 0}, {0x143, all, 0}, {0x144, 0, 0}, {0x600,
                    0x7003c0, 0x200000000L},
            {0x602, 0xb1ff, 0}, {0x603, 0x444, 0}, {0x604, 0x444, 0}, {0x605, all, 0}, {0x606, 7, 0}, {0x607, 0, 0}, {0x643, all, 0},
                    {0x644, 4, 0}, {0x645, 0x444, 0},
            {0x64a, all, 0}, {0x200, 0xc0122, 0x200000000L}, {0x204, 0, 0}, {0x205, ~2L, 0}, {0x240, all, 0}, {0x241, ~1L, 0}, {0x242, all,
                    0}, {0x243, all, 0}, {0x244, 0, 0}};
        for (long[] row : rows) {
            RiscMonitor x = Stage.in(3, false,
                    "li a0,-1\ncsrrw a1," + row[0] + ",a0\ncsrrc a2," + row[0] + ",a0\ncsrrs a3," + row[0] + ",a0\ncsrrw a4," + row[0] + ",zero",
                    0x305, 0, 0x105, 0, 0x205, 0, 0x341, 0);
            String name = Long.toHexString(row[0]);
            x.run(0, 2);
            CHECK.due(name + ": all bits written", x.control(0, 0, (int) row[0]), row[1] | row[2]);
            x.run(0, 1);
            CHECK.due(name + ": all bits cleared", x.control(0, 0, (int) row[0]), row[2]);
            x.run(0, 1);
            CHECK.due(name + ": all bits set", x.control(0, 0, (int) row[0]), row[1] | row[2]);
            for (int r = 15; r < 32; r++) {
                CHECK.due(name + ": no other register is written, x" + r, x.register(0, 0, r), 0);
            }
            x.run(0, 1);
            CHECK.due(name + ": what it was", x.register(0, 0, 14), row[1] | row[2]);
            CHECK.due(name + ": 0 written", x.control(0, 0, (int) row[0]), row[2]);
        }
    }

    /** Registers that are parts of others, or stay whole. */
    private static void writtenParts() {
        CHECK.about("term 4: parts of registers");
        String all = "li a0,-1\ncsrw ";
        RiscMonitor x = Stage.ran(2, 3, false, all + "0x104,a0", 0x303, 0x202);
        CHECK.due("sie: those that mideleg has", x.control(0, 0, 0x304), 0x202);
        CHECK.due("sie", x.control(0, 0, 0x104), 0x202);
        x = Stage.ran(2, 3, false, all + "0x144,a0", 0x303, -1);
        CHECK.due("sip: bit 1 alone", x.control(0, 0, 0x344), 2);
        x = Stage.ran(1, 3, false, "csrw 0x144,zero", 0x303, -1, 0x344, -1);
        CHECK.due("sip, cleared", x.control(0, 0, 0x344), 0x224);
        CHECK.due("sip: of 1, 5, 9", x.control(0, 0, 0x144), 0x220);
        x = Stage.ran(2, 3, false, all + "0x204,a0", 0x603, 0x404);
        CHECK.due("vsie: those that hideleg has, one lower", x.control(0, 0, 0x204), 0x202);
        CHECK.due("hie", x.control(0, 0, 0x604), 0x404);
        x = Stage.ran(2, 3, false, all + "0x244,a0", 0x603, -1);
        CHECK.due("vsip: bit 1 alone", x.control(0, 0, 0x244), 2);
        CHECK.due("hvip has it", x.control(0, 0, 0x645), 4);
        x = Stage.ran(1, 3, false, "csrw 0x244,zero", 0x603, 0x440, 0x645, -1);
        CHECK.due("vsip without hideleg's bit 2", x.control(0, 0, 0x645), 0x444);
        CHECK.due("vsip", x.control(0, 0, 0x244), 0x220);
        parts(0x104, 0x303, 0x222, 0);
        parts(0x204, 0x603, 0x444, 1);
        x = Stage.ran(2, 3, false, "li a0,2\ncsrw 0x244,a0", 0x603, 0x444);
        CHECK.due("vsip's bit 1 is hvip's bit 2", x.control(0, 0, 0x645), 4);
        x = Stage.ran(2, 3, false, all + "0x604,a0", 0x304, 0x888);
        CHECK.due("hie: bits 2, 6, 10 of mie", x.control(0, 0, 0x304), 0xccc);
        x = Stage.ran(1, 3, false, "csrw 0x644,zero", 0x645, -1);
        CHECK.due("hip: bit 2 can be written", x.control(0, 0, 0x645), 0x440);
        x = Stage.ran(1, 3, false, "csrw 0x344,zero", 0x645, -1, 0x344, -1);
        CHECK.due("mip: bit 2 is written through", x.control(0, 0, 0x344), 0x440);
        x = Stage.ran(1, 3, false, "csrw 0x100,zero", 0x300, -1);
        CHECK.due("sstatus leaves the others", x.control(0, 0, 0x300), 0xca00721888L);
        for (int mpp = 0; mpp < 4; mpp++) {
            x = Stage.ran(4, 3, false, "li a0," + (mpp << 11) + "\ncsrw 0x300,a0\nwfi", 0x300, 1 << 11);
            CHECK.due("MPP " + mpp, x.control(0, 0, 0x300) >>> 11 & 3, mpp == 2 ? 1 : mpp);
        }
        paging();
    }

    /** A part of mie by its delegation: each bit alone, written and read. */
    private static void parts(int number, int delegation, long all, int lower) {
        for (int bit : new int[] {1, 5, 9}) {
            long mine = 1L << bit;
            RiscMonitor x = Stage.ran(2, 3, false, "li a0," + mine + "\ncsrw " + number + ",a0", delegation, all);
            CHECK.due("bit " + bit + " of " + Integer.toHexString(number) + " is written to mie", x.control(0, 0, 0x304), mine << lower);
            CHECK.due("it is read", x.control(0, 0, number), mine);
            x = Stage.in(3, false, "nop", delegation, mine << lower, 0x304, -1);
            CHECK.due("delegated alone", x.control(0, 0, number), mine);
            x = Stage.in(3, false, "nop", delegation, all, 0x304, mine << lower);
            CHECK.due("enabled alone", x.control(0, 0, number), mine);
            x = Stage.ran(1, 3, false, "csrw " + number + ",zero", delegation, mine << lower, 0x304, -1);
            CHECK.due("cleared alone", x.control(0, 0, 0x304), 0xeee & ~(mine << lower));
        }
    }

    private static void paging() {
        CHECK.about("term 4: MODE 0 or 8");
        int[] numbers = {0x180, 0x280, 0x680};
        long[] bits = {-1, -1, 0xf3fffffffffffffcL};
        for (int i = 0; i < 3; i++) {
            for (long mode = 0; mode < 16; mode++) {
                RiscMonitor x = Stage.in(3, false, "nop", numbers[i], 0x8000000000000abcL, numbers[i], mode << 60 | 0x0fffffffffffffffL);
                long want = mode == 0 || mode == 8 ? (mode << 60 | 0x0fffffffffffffffL) & bits[i] : 0x8000000000000abcL;
                CHECK.due(Integer.toHexString(numbers[i]) + ", MODE " + mode, x.control(0, 0, numbers[i]), want);
            }
        }
    }

    private static void protection() {
        CHECK.about("term 5: pmpcfg0, pmpaddr");
        for (int entry = 0; entry < 8; entry++) {
            int shift = 8 * entry;
            RiscMonitor x = Stage.in(3, false, "nop", 0x3a0, 0x1b1b1b1b1b1b1b1bL, 0x3a0, 0x1f1f1f1f1f1f1f1fL & ~(255L << shift) | 0x1aL << shift);
            CHECK.due("W without R: that byte stays, " + entry, x.control(0, 0, 0x3a0), 0x1f1f1f1f1f1f1f1fL & ~(255L << shift) | 0x1bL << shift);
            x = Stage.in(3, false, "nop", 0x3a0, 0x98L << shift, 0x3a0, 0x1b1b1b1b1b1b1b1bL);
            CHECK.due("a byte with L isn't written any more, " + entry, x.control(0, 0, 0x3a0),
                    0x1b1b1b1b1b1b1b1bL & ~(255L << shift) | 0x98L << shift);
            for (long a = 0; a < 4; a++) {
                locked(entry, a);
            }
        }
        RiscMonitor x = Stage.in(3, false, "nop", 0x3a0, 0x60);
        CHECK.due("bits 5 and 6 stay 0", x.control(0, 0, 0x3a0), 0);
    }

    /** All addresses are written behind a byte with L (or without it) and A, and with all rights or none. */
    private static void locked(int entry, long a) {
        locked(entry, a, 0x80);
        locked(entry, a, 0x87);
        locked(entry, a, 0x07);
    }

    private static void locked(int entry, long a, long bits) {
        long[] pairs = new long[18];
        pairs[0] = 0x3a0;
        pairs[1] = (bits | a << 3) << 8 * entry;
        for (int i = 0; i < 8; i++) {
            pairs[2 + 2 * i] = 0x3b0 + i;
            pairs[3 + 2 * i] = 0x3fffffffffffffL;
        }
        RiscMonitor x = Stage.in(3, false, "nop", pairs);
        for (int i = 0; i < 8; i++) {
            boolean stays = bits >= 0x80 && (i == entry || i == entry - 1 && a == 1);
            CHECK.due("L, A " + a + " of entry " + entry + ": pmpaddr " + i, x.control(0, 0, 0x3b0 + i), stays ? 0 : 0x3fffffffffffffL);
        }
    }

    /** The cause that a read (or a write) of a register has in a mode (4 more with V), no right being given. */
    private static int due(int number, boolean writes, int mode) {
        boolean guest = mode >= 4;
        int kind = number >> 8;
        if (!isThere(number) || writes && (number & 0xc00) == 0xc00) {
            return 2;
        }
        if (guest && (kind == 6 || kind == 2) || mode == 4 && kind == 1) {
            return 22;
        }
        int least = kind & 3;
        boolean may = mode == 3 || (least == 0 || least == 1 && (mode & 3) == 1 || least == 2 && mode == 1);
        return may && (kind != 12 || mode == 3) ? 0 : 2;
    }

    private static void everyMode() {
        CHECK.about("term 4: who may");
        int[] others = {0x000, 0x001, 0x101, 0x107, 0x145, 0x17f, 0x181, 0x201, 0x206, 0x245, 0x281, 0x2ff, 0x601, 0x608, 0x646, 0x681,
                0x6ff, 0x307, 0x3b8, 0xc03, 0xe11, 0xf10, 0xf16, 0xfff};
        int[] all = new int[NUMBERS.length + others.length];
        System.arraycopy(NUMBERS, 0, all, 0, NUMBERS.length);
        System.arraycopy(others, 0, all, NUMBERS.length, others.length);
        for (int mode : MODES) {
            for (int number : all) {
                String where = Integer.toHexString(number) + " in mode " + mode;
                CHECK.due("read " + where, Stage.cause(Stage.ran(1, mode & 3, mode >= 4, "csrr a0," + number)), due(number, false, mode));
                // In M a write may change where a trap goes; what is read alone is enough there.
                if (mode != 3 || due(number, true, mode) != 0) {
                    CHECK.due("write " + where, Stage.cause(Stage.ran(1, mode & 3, mode >= 4, "csrrs zero," + number + ",sp")), due(number,
                            true, mode));
                }
            }
        }
    }

    private static void pagingRights() {
        CHECK.about("term 4: TVM and VTVM");
        int[] numbers = {0x180, 0x280, 0x680};
        for (int number : numbers) {
            for (int mode : new int[] {1, 3, 5}) {
                for (int set = 0; set < 4; set++) {
                    RiscMonitor x = Stage.ran(1, mode & 3, mode >= 4, "csrr a0," + number, 0x300, (set & 1) * TVM, 0x600, (set >> 1) * TVM);
                    int want = mode == 3 ? 0 : mode == 1 ? (set & 1) != 0 && number != 0x280 ? 2 : 0 : number != 0x180 || set > 1 ? 22 : 0;
                    CHECK.due(Integer.toHexString(number) + " in mode " + mode + ", TVM and VTVM " + set, Stage.cause(x), want);
                }
            }
        }
    }

    private static void counterRights() {
        CHECK.about("term 4: cycle, time, instret");
        for (int counter = 0; counter < 3; counter++) {
            for (int mode : MODES) {
                for (int set = 0; set < 8; set++) {
                    long bit = 1L << counter;
                    RiscMonitor x = Stage.ran(1, mode & 3, mode >= 4, "csrr a0," + (0xc00 + counter),
                            0x306, (set & 1) != 0 ? bit : ~bit, 0x606, (set & 2) != 0 ? bit : ~bit, 0x106, (set & 4) != 0 ? bit : ~bit);
                    CHECK.due("counter " + counter + " in mode " + mode + ", rights " + set, Stage.cause(x), counterCause(mode, set));
                }
            }
        }
        RiscMonitor x = Stage.ran(1, 1, true, "csrr a0,0xc01", 0x306, 2, 0x606, 2, 0x605, -1000);
        CHECK.due("htimedelta with V", x.register(0, 0, 10), x.control(0, 0, 0xc01) - 1000);
        x = Stage.ran(1, 1, false, "csrr a0,0xc01", 0x306, 2, 0x605, -1000);
        CHECK.due("not without", x.register(0, 0, 10), x.control(0, 0, 0xc01));
        x = Stage.ran(2, 1, true, "csrr a0,0xc00\ncsrr a1,0xc02", 0x306, 7, 0x606, 7, 0x605, -1000, 0xb00, 5000, 0xb02, 7000);
        CHECK.due("nor to cycle", x.register(0, 0, 10) / 1000, 5);
        CHECK.due("nor to instret", x.register(0, 0, 11) / 1000, 7);
    }

    /** Rights: 1 mcounteren, 2 hcounteren, 4 scounteren. */
    private static int counterCause(int mode, int set) {
        if (mode == 3) {
            return 0;
        }
        if ((set & 1) == 0) {
            return 2;
        }
        if (mode >= 4 && (set & 2) == 0) {
            return 22;
        }
        return (mode & 3) == 0 && (set & 4) == 0 ? mode >= 4 ? 22 : 2 : 0;
    }

    /** With V, 0x100 .. 0x1ff are those of 0x200 .. */
    private static void guestsOwn() {
        CHECK.about("term 4: with V");
        int[] numbers = {0x105, 0x140, 0x141, 0x142, 0x143, 0x180};
        for (int number : numbers) {
            RiscMonitor x = Stage.ran(1, 1, true, "csrrci a0," + number + ",31", number, 0x5674, number + 0x100, 0x1234);
            CHECK.due(Integer.toHexString(number) + " is read", x.register(0, 0, 10), 0x1234);
            CHECK.due("it is written", x.control(0, 0, number + 0x100), 0x1220);
            CHECK.due("the other stays", x.control(0, 0, number), 0x5674);
        }
        RiscMonitor x = Stage.ran(1, 1, true, "csrrci a0,0x100,31", 0x300, 0x40122, 0x200, 0x80122);
        CHECK.due("sstatus is vsstatus", x.register(0, 0, 10), 0x200080122L);
        CHECK.due("it is written", x.control(0, 0, 0x200), 0x200080120L);
        CHECK.due("sstatus stays", x.control(0, 0, 0x100), 0x200040122L);
        x = Stage.ran(2, 1, true, "csrrwi a0,0x106,5\ncsrr a1,0x106");
        CHECK.due("scounteren is its own", x.control(0, 0, 0x106), 5);
        CHECK.due("read", x.register(0, 0, 11), 5);
        x = Stage.ran(3, 1, true, "li a1,-1\ncsrrw a0,0x104,a1\ncsrrw a2,0x144,a1", 0x603, 0x444);
        CHECK.due("sie is vsie", x.control(0, 0, 0x604), 0x444);
        CHECK.due("sip is vsip", x.control(0, 0, 0x645), 4);
        CHECK.due("mip has none of S", x.control(0, 0, 0x344), 4);
    }

    /** Each register keeps what was written to it, whatever is written to the others. */
    private static void distinct() {
        CHECK.about("term 4: no register is another");
        int[] numbers = {0x302, 0x304, 0x305, 0x306, 0x320, 0x340, 0x341, 0x342, 0x343, 0x344, 0x34a, 0x34b, 0x3b0, 0x3b1, 0x3b2, 0x3b3,
                0x3b4, 0x3b5, 0x3b6, 0x3b7, 0x105, 0x106, 0x140, 0x141, 0x142, 0x143, 0x180,
            0x600, 0x602, 0x603, 0x605, 0x606, 0x643, 0x64a, 0x680, 0x200, 0x205, 0x240, 0x241, 0x242, 0x243, 0x280};
        long[] masks = {0xf0b7ff, 0xeee, ~2L, 7, 5, -1, ~1L, -1, -1, 0x222, -1, -1, -1, -1, -1, -1, -1, -1, -1, -1, ~2L, 7, -1, ~1L, -1,
                -1, -1, 0x7003c0, 0xb1ff, 0x444, -1, 7, -1, -1, ~3L, 0xc0122, ~2L, -1, ~1L, -1, -1, -1};
        for (int round = 0; round < 2; round++) {
            StringBuilder text = new StringBuilder();
            for (int k = 0; k < numbers.length; k++) {
                int i = round == 0 ? k : numbers.length - 1 - k;
                text.append("li a0,").append(value(i)).append("\ncsrw ").append(numbers[i]).append(",a0\n");
            }
            RiscMonitor x = Check.house(1, 1, text.toString(), "csrw 0x320,a1", "e: j e");
            x.run(0, 200);
            for (int i = 0; i < numbers.length; i++) {
                long fixed = numbers[i] == 0x600 || numbers[i] == 0x200 ? 0x200000000L : 0;
                CHECK.due(Integer.toHexString(numbers[i]), x.control(0, 0, numbers[i]), numbers[i] == 0x320 ? 0 : value(i) & masks[i] | fixed);
            }
            CHECK.due("mip: with hvip's", x.control(0, 0, 0x645), value(9) & 4);
        }
    }

    private static int value(int i) {
        return 0x5a3c96f & (0x7ffffff >>> i % 5) ^ i * 0x10101 + (i % 2 == 0 ? 0x222 : 0x444);
    }

    /** The controller's SEIP is not what csrrs and csrrc find in mip. */
    private static void ownPartOfPending() {
        CHECK.about("term 4: by sets and clears from that part alone");
        String[] lines = {"csrrsi a0,0x344,2", "csrrci a0,0x344,2", "csrrs a0,0x344,zero", "csrrs a0,0x344,s3", "csrrc a0,0x344,s3",
                "csrrw a0,0x344,s3", "csrrw a0,0x344,zero"};
        long[] own = {2, 0, 0, 0x200, 0, 0x200, 0};
        for (int i = 0; i < lines.length; i++) {
            RiscMonitor x = Check.house(1, 1, "la s0,0xc000010", "la s1,0xc002080", "li s2,16", "li s3,512", "sw s2,4(s0)", "li t0,7",
                    "sw t0,0(s0)", "sw s2,0(s1)", lines[i], "sw zero,0(s1)", "wfi");
            x.wire(0, 4, true);
            x.run(0, 11);
            CHECK.due(lines[i] + ": what it was", x.register(0, 0, 10), 512);
            CHECK.due(lines[i] + ": SEIP is the controller's", x.control(0, 0, 0x344) & 512, 512);
            x.run(0, 1);
            CHECK.due(lines[i] + ": the own part", x.control(0, 0, 0x344), own[i]);
        }
    }
}
