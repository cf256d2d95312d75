/** Term 1, promises 3, 7 to 11: computers' sizes, RESETs, whose step it is, who waits, and what grows. */
public final class StepEdgesTest {
    private static final Check CHECK = new Check();
    private static final long RAM = Check.RAM;
    private static final int[] CONTROLS = {
        0x300, 0x301, 0x302, 0x303, 0x304, 0x305, 0x306, 0x320, 0x340, 0x341, 0x342, 0x343, 0x344, 0x34a, 0x34b, 0x3a0, 0x3b0, 0x3b7,
                0xb00, 0xb02, 0xc00, 0xc02,
        0x100, 0x104, 0x105, 0x106, 0x140, 0x141, 0x142, 0x143, 0x144, 0x180, 0x600, 0x602, 0x603, 0x604, 0x605, 0x606, 0x643, 0x644,
                0x645, 0x64a, 0x680,
        0x200, 0x204, 0x205, 0x240, 0x241, 0x242, 0x243, 0x244, 0x280};

    public static void main(String[] args) {
        sizes();
        resets();
        resetsOfState();
        turns();
        waits();
        wakes();
        cycles();
        inhibited();
        written();
        runs();
        registers();
        CHECK.end();
    }

    private static void sizes() {
        CHECK.about("term 1: 1 .. 4 harts, 1 .. 16 pages");
        int[] all = {Integer.MIN_VALUE, -1, 0, 1, 2, 3, 4, 5, 15, 16, 17, Integer.MAX_VALUE};
        for (int harts : all) {
            for (int pages : all) {
                RiscMonitor x = new RiscMonitor();
                boolean good = harts >= 1 && harts <= 4 && pages >= 1 && pages <= 16;
                CHECK.due("computer(" + harts + ", " + pages + ")", x.computer(harts, pages), good ? 0 : -4);
                CHECK.due("computers", x.count(0), good ? 1 : 0);
                if (good) {
                    CHECK.due("harts", x.state(0, 2), harts);
                    CHECK.due("pages", x.state(0, 3), pages);
                    CHECK.due("the last hart", x.hart(0, harts - 1, 0), 3);
                    CHECK.due("one more", x.hart(0, harts, 0), -2);
                    CHECK.due("the first byte", x.cell(0, RAM), 0);
                    CHECK.due("one ahead", x.cell(0, RAM - 1), -1);
                    CHECK.due("the last byte", x.cell(0, RAM + pages * 4096L - 1), 0);
                    CHECK.due("one behind", x.cell(0, RAM + pages * 4096L), -1);
                }
            }
        }
        RiscMonitor x = new RiscMonitor();
        for (long at : new long[] {0, -1, Long.MIN_VALUE, Long.MAX_VALUE, RAM + (1L << 32), RAM | 1L << 63, RAM - (1L << 32)}) {
            x.computer(1, 16);
            CHECK.due("no RAM at " + Long.toHexString(at), x.cell(0, at), -1);
            CHECK.due("nor to poke", x.poke(0, at, 1), -4);
        }
    }

    /** A program of hart 0 that changes all that a reset puts back, but RAM, sectors, output, MTIME and wires. */
    private static String[] disorder(String end) {
        StringBuilder text = new StringBuilder("csrr t0,0xf14\nbnez t0,w\n");
        text.append("li a0,5\n");
        int[] words = {0x2000000, 0xc000004, 0xc00001c, 0xc002000, 0xc002180, 0xc200000, 0xc203000};
        int[] longs = {0x2004000, 0x2004008, 0x10001000, 0x10001008, 0x10002000, 0x10002008, 0x10002010, 0x10004000};
        for (int at : words) {
            text.append("la s0,").append(at).append("\nsw a0,0(s0)\n");
        }
        for (int at : longs) {
            text.append("la s0,").append(at).append("\nsd a0,0(s0)\n");
        }
        text.append("la s0,0x10000000\nsb a0,1(s0)\nla s0,0x10001000\nsw a0,16(s0)\nla s0,0x10002000\nsw a0,24(s0)\n");
        text.append("la s0,0xc200000\nlw a1,4(s0)\nla s0,0x80000040\nlr.d a2,(s0)\n");
        int[] controls = {0x302, 0x303, 0x304, 0x305, 0x306, 0x340, 0x341, 0x342, 0x343, 0x344, 0x34a, 0x34b, 0x3b0, 0x3b7, 0xb00, 0xb02,
                0x105, 0x106, 0x140, 0x141,
            0x142, 0x143, 0x602, 0x603, 0x605, 0x606, 0x643, 0x645, 0x64a, 0x205, 0x240, 0x241, 0x242, 0x243, 0x180, 0x280, 0x680};
        text.append("li a0,15\n");
        for (int number : controls) {
            text.append("csrw ").append(number).append(",a0\n");
        }
        text.append("csrw 0x600,a3\ncsrw 0x300,a3\n");
        return new String[] {text.toString(), end, "w: wfi", "j w"};
    }

    /** Behind a RESET of each kind a computer is alike a new one that has its RAM, MTIME and wires. */
    private static void resets() {
        CHECK.about("term 1: RESET");
        String[] ends = {"nop", "la s0,0x100000\nli a0,0x7777\nsw a0,0(s0)", "la s0,0x10003000\nli a0,1\nsd a0,0(s0)\nnop"};
        for (int kind = 0; kind < 3; kind++) {
            RiscMonitor x = Check.house(2, 2, disorder(ends[kind]));
            x.computer(2, 2);
            Check.make(x, 1, RAM, disorder(ends[kind]));
            x.key(0, 7);
            x.wire(0, 5, true);
            x.wire(1, 5, true);
            CHECK.due("alike but for the key", x.alike(0, 1), 0);
            // Both harts have left the place at which a RESET puts them.
            x.run(0, 2);
            x.mark(0, 0, RAM);
            x.run(0, 400);
            long steps = x.state(0, 5);
            if (kind == 0) {
                CHECK.due("hart 1 waits", x.hart(0, 1, 2), 1);
                CHECK.due("a RESERVATION", x.hart(0, 0, 3), RAM + 64);
                CHECK.due("no RESET", steps, 402);
                x.reset(0);
            } else {
                CHECK.due("a RESET was made", x.state(0, 0), 2);
                x.go(0);
            }
            x.time(1, steps);
            CHECK.due("alike, kind " + kind, x.alike(0, 1), 1);
            CHECK.due("RUNNING", x.state(0, 0), 0);
            CHECK.due("steps stay", x.state(0, 5), steps);
        }
    }

    private static void resetsOfState() {
        CHECK.about("promise 8");
        RiscMonitor fresh = Check.house(2, 2, "nop");
        RiscMonitor x = Check.house(2, 2, "la s0,0x10000000", "sb s0,0(s0)", "la s1,0x10001000", "la s2,0x80000000", "sd s2,8(s1)",
                "li a0,2", "sw a0,16(s1)", "wfi");
        x.run(0, 40);
        CHECK.due("reset", x.reset(0), 1);
        for (int number : CONTROLS) {
            CHECK.due("control register " + Integer.toHexString(number), x.control(0, 1, number), fresh.control(0, 1, number));
        }
        for (int r = 0; r < 32; r++) {
            CHECK.due("x" + r, x.register(0, 1, r), 0);
        }
        CHECK.due("sectors stay", x.sector(0, 0, 0), 0x17);
        CHECK.due("output stays", x.serial(0, 1), 0);
        CHECK.due("MTIME stays", x.control(0, 0, 0xc01), 40);
        CHECK.due("RAM stays", x.cell(0, RAM), 0x17);
        CHECK.due("-2", x.reset(1), -2);
        CHECK.due("-2", x.reset(-1), -2);
        CHECK.due("-2", x.reset(4), -2);
    }

    private static void turns() {
        CHECK.about("term 1: harts take steps in turn");
        for (int harts = 1; harts <= 4; harts++) {
            RiscMonitor x = Check.house(harts, 1, "csrr a0,0xf14", "addi a1,a0,-1", "bnez a1,0x80000010", "wfi", "j 0x80000010");
            for (int step = 0; step < 20; step++) {
                CHECK.due("turn", x.state(0, 4), step % harts);
                CHECK.due("a step", x.run(0, 1), 1);
            }
            CHECK.due("steps", x.state(0, 5), 20);
            CHECK.due("MTIME", x.control(0, 0, 0xc01), 20);
        }
    }

    private static void waits() {
        CHECK.about("term 1: nothing is done");
        RiscMonitor x = Check.house(1, 1, "wfi", "nop");
        x.run(0, 1);
        CHECK.due("minstret of wfi", x.control(0, 0, 0xb02), 1);
        CHECK.due("mcycle of wfi", x.control(0, 0, 0xb00), 1);
        CHECK.due("it waits", x.hart(0, 0, 2), 1);
        x.run(0, 9);
        CHECK.due("mcycle stands", x.control(0, 0, 0xb00), 1);
        CHECK.due("minstret stands", x.control(0, 0, 0xb02), 1);
        CHECK.due("MTIME grows", x.control(0, 0, 0xc01), 10);
        CHECK.due("steps grow", x.state(0, 5), 10);
        CHECK.due("instructions don't", x.state(0, 6), 1);
        CHECK.due("it waits still", x.hart(0, 0, 2), 1);
        CHECK.due("pc", x.hart(0, 0, 1), RAM + 4);
        CHECK.due("nothing is traced", x.trace(0, 1, 0), -1);
        x.time(0, -2);
        x.run(0, 1);
        CHECK.due("pending but not enabled in mie: it waits", x.hart(0, 0, 2), 1);
    }

    private static void wakes() {
        CHECK.about("term 1: waits no more");
        RiscMonitor x = Stage.in(3, false, "wfi\nnop\nnop", 0x304, 0x80);
        x.run(0, 3);
        x.time(0, -2);
        long cycles = x.control(0, 0, 0xb00);
        x.run(0, 1);
        CHECK.due("pending and enabled, not due: an instruction", x.hart(0, 0, 1), Stage.CODE + 8);
        CHECK.due("it waits no more", x.hart(0, 0, 2), 0);
        CHECK.due("mcycle grows", x.control(0, 0, 0xb00), cycles + 1);
        x = Stage.in(1, false, "wfi\nnop\nnop", 0x304, 0x80);
        x.run(0, 3);
        x.time(0, -2);
        long retired = x.control(0, 0, 0xb02);
        cycles = x.control(0, 0, 0xb00);
        x.run(0, 1);
        CHECK.due("due: the trap", Stage.cause(x), Long.MIN_VALUE + 7);
        CHECK.due("mepc", x.control(0, 0, 0x341), Stage.CODE + 4);
        CHECK.due("it waits no more", x.hart(0, 0, 2), 0);
        CHECK.due("mcycle grows", x.control(0, 0, 0xb00), cycles + 1);
        CHECK.due("minstret doesn't", x.control(0, 0, 0xb02), retired);
        x = Stage.in(3, false, "wfi\nnop", 0x303, 2, 0x304, 2, 0x344, 2);
        x.run(0, 1);
        CHECK.due("wfi with one pending waits", x.hart(0, 0, 2), 1);
        x.run(0, 1);
        CHECK.due("for a step", x.hart(0, 0, 1), Stage.CODE + 8);
    }

    private static void cycles() {
        CHECK.about("term 1: mcycle, minstret");
        RiscMonitor x = Check.house(2, 1, "nop", "ecall", "nop");
        x.run(0, 1);
        CHECK.due("hart 0's", x.control(0, 0, 0xb00), 1);
        CHECK.due("not hart 1's", x.control(0, 1, 0xb00), 0);
        x.run(0, 2);
        CHECK.due("mcycle of a trap", x.control(0, 0, 0xb00), 2);
        CHECK.due("minstret of a trap", x.control(0, 0, 0xb02), 1);
        CHECK.due("instructions", x.state(0, 6), 2);
        CHECK.due("traps", x.state(0, 7), 1);
        x.run(0, 2);
        CHECK.due("a fetch that fails", x.control(0, 0, 0xb00), 3);
        CHECK.due("minstret", x.control(0, 0, 0xb02), 1);
        x = Stage.ran(2, 3, false, "csrr a0,0xb00\ncsrr a1,0xb02", 0xb00, -1, 0xb02, -1);
        CHECK.due("they wrap around", x.register(0, 0, 10) * 100 + x.register(0, 0, 11), 600 + 4);
    }

    private static void inhibited() {
        CHECK.about("term 1: mcountinhibit, behind what the step wrote");
        for (int bits = 0; bits < 8; bits++) {
            RiscMonitor x = Stage.in(3, false, "csrwi: csrrwi zero,0x320," + bits + "\nnop\ncsrrwi zero,0x320,0");
            long cycles = x.control(0, 0, 0xb00);
            long retired = x.control(0, 0, 0xb02);
            x.run(0, 1);
            CHECK.due("mcycle, " + bits + " being written", x.control(0, 0, 0xb00) - cycles, 1 - (bits & 1));
            CHECK.due("minstret", x.control(0, 0, 0xb02) - retired, 1 - (bits >> 2 & 1));
            x.run(0, 1);
            CHECK.due("mcycle, one more", x.control(0, 0, 0xb00) - cycles, 2 * (1 - (bits & 1)));
            CHECK.due("minstret, one more", x.control(0, 0, 0xb02) - retired, 2 * (1 - (bits >> 2 & 1)));
            x.run(0, 1);
            CHECK.due("mcycle, 0 being written", x.control(0, 0, 0xb00) - cycles, 1 + 2 * (1 - (bits & 1)));
            CHECK.due("minstret, 0 being written", x.control(0, 0, 0xb02) - retired, 1 + 2 * (1 - (bits >> 2 & 1)));
        }
    }

    private static void written() {
        CHECK.about("term 1: not by a step whose instruction wrote that register");
        String[] writes = {"csrw 0xb00,a0", "csrrwi zero,0xb00,0", "csrrs zero,0xb00,a0", "csrrsi zero,0xb00,1", "csrrc zero,0xb00,a0",
                "csrrci zero,0xb00,1"};
        String[] reads = {"csrrs a1,0xb00,zero", "csrrc a1,0xb00,zero", "csrrsi a1,0xb00,0", "csrrci a1,0xb00,0", "csrrs a1,0xc00,zero", "nop"};
        for (int i = 0; i < 2; i++) {
            int own = i == 0 ? 0xb00 : 0xb02;
            int other = i == 0 ? 0xb02 : 0xb00;
            for (String line : writes) {
                RiscMonitor x = Stage.in(3, false, line.replace("0xb00", "" + own));
                long before = x.control(0, 0, other);
                long was = x.control(0, 0, own);
                x.run(0, 1);
                long want = line.contains("csrw") || line.contains("csrrw") ? 0 : line.contains("csrrsi") ? was | 1
                        : line.contains("csrrci") ? was & ~1 : was;
                CHECK.due(line + ": what was written stands", x.control(0, 0, own), want);
                CHECK.due("the other grows", x.control(0, 0, other), before + 1);
            }
            for (String line : reads) {
                RiscMonitor x = Stage.in(3, false, line.replace("0xb00", "" + own).replace("0xc00", "" + (own + 0x100)));
                long was = x.control(0, 0, own);
                x.run(0, 1);
                CHECK.due(line + " grows", x.control(0, 0, own), was + 1);
                if (!line.equals("nop")) {
                    CHECK.due("what is read is ahead of the growing", x.register(0, 0, 11), was);
                }
            }
        }
    }

    private static void runs() {
        CHECK.about("promise 7: 1 .. 2000");
        RiscMonitor x = Check.house(1, 1, "j 0x80000000");
        int[] bad = {0, -1, 2001, Integer.MAX_VALUE, Integer.MIN_VALUE};
        for (int n : bad) {
            CHECK.due("run of " + n, x.run(0, n), -4);
        }
        CHECK.due("no step was done", x.state(0, 5), 0);
        int[] good = {1, 2, 1999, 2000};
        long sum = 0;
        for (int n : good) {
            CHECK.due("run of " + n, x.run(0, n), n);
            sum += n;
            CHECK.due("steps", x.state(0, 5), sum);
        }
        CHECK.due("-2 ahead of -4", x.run(1, 0), -2);
        CHECK.due("-2", x.run(-1, 1), -2);
    }

    private static void registers() {
        CHECK.about("promise 11: x[r]");
        StringBuilder text = new StringBuilder();
        for (int r = 0; r < 32; r++) {
            text.append("li x").append(r).append(",").append(r + 100).append('\n');
        }
        RiscMonitor x = Check.house(2, 1, text.toString());
        x.run(0, 64);
        for (int r = 0; r < 32; r++) {
            CHECK.due("x" + r + " of hart 0", x.register(0, 0, r), r == 0 ? 0 : r + 100);
            CHECK.due("x" + r + " of hart 1", x.register(0, 1, r), r == 0 ? 0 : r + 100);
        }
        int[][] none = {{0, 0, 32}, {0, 0, -1}, {0, 2, 0}, {0, -1, 0}, {1, 0, 0}, {-1, 0, 0}, {4, 0, 0}, {0, 0, Integer.MAX_VALUE}, {0,
                Integer.MIN_VALUE, 0}};
        for (int[] row : none) {
            CHECK.dueRefusal("register(" + row[0] + ", " + row[1] + ", " + row[2] + ")", () -> x.register(row[0], row[1], row[2]));
        }
    }
}
