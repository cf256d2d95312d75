/** Term 6: what the devices do at the ends of their numbers. */
public final class DeviceEdgesTest {
    private static final Check CHECK = new Check();
    private static final long RAM = Check.RAM;
    private static final long PAGE = 4096;

    public static void main(String[] args) {
        power();
        gate();
        priorities();
        service();
        contexts();
        serialWire();
        deviceWires();
        disk();
        copier();
        copierDirections();
        dog();
        chance();
        fullOutput();
        fullKeys();
        CHECK.end();
    }

    private static void power() {
        CHECK.about("term 6: POWER");
        long[] words = {0x5555, 0xffff5555L, 0x3333, 0xffff3333L, 0x00013333, 0x7777, 0xffff7777L, 0, 1, 0x5554, 0x5556, 0x3332, 0x3334,
                0x7776, 0x7778, 0x55550000L};
        for (long word : words) {
            RiscMonitor x = Check.house(2, 1, "csrw 0x340,sp", "li a0,9", "la s0,0x100000", "la s1,d", "lw a1,0(s1)", "sw a1,0(s0)",
                    "lw a2,0(s0)", "j 0x80000020", ".align 3", "d: .word " + word);
            x.run(0, 14);
            CHECK.due("nothing yet", x.state(0, 0), 0);
            CHECK.due("turn", x.state(0, 4), 0);
            x.run(0, 1);
            int low = (int) word & 0xffff;
            boolean off = low == 0x5555 || low == 0x3333;
            CHECK.due("state behind " + Long.toHexString(word), x.state(0, 0), off ? 1 : 0);
            CHECK.due("CODE", x.state(0, 1), low == 0x3333 ? word >>> 16 : 0);
            CHECK.due("pc", x.hart(0, 0, 1), low == 0x7777 ? RAM : RAM + 32);
            CHECK.due("turn", x.state(0, 4), low == 0x7777 ? 0 : 1);
            CHECK.due("mcycle", x.control(0, 0, 0xb00), low == 0x7777 ? 0 : 8);
            CHECK.due("minstret", x.control(0, 0, 0xb02), low == 0x7777 ? 0 : 8);
            CHECK.due("steps", x.state(0, 5), 15);
            CHECK.due("instructions", x.state(0, 6), 15);
            CHECK.due("MTIME", x.control(0, 0, 0xc01), 15);
            if (!off && low != 0x7777) {
                x.run(0, 2);
                CHECK.due("loaded 0", x.register(0, 0, 12), 0);
                CHECK.due("not trapped", x.state(0, 7), 0);
            }
        }
    }

    private static void gate() {
        CHECK.about("term 6: GATE");
        for (int h = 0; h < 4; h++) {
            RiscMonitor x = Check.house(4, 1, "csrr t0,0xf14", "bnez t0,0x80000100", "la s0,0x2000000", "la s1,0x2004000", "li a0,-2",
                    "sw a0," + 4 * h + "(s0)", "lw a1," + 4 * h + "(s0)",
                    "li a0,3", "sw a0," + 4 * h + "(s0)", "lw a2," + 4 * h + "(s0)", "sd zero," + 8 * h + "(s1)", "ld a3," + 8 * h + "(s1)", "wfi");
            x.run(0, 60);
            CHECK.due("bit 0 alone, unset", x.register(0, 0, 11), 0);
            CHECK.due("bit 0 alone, set", x.register(0, 0, 12), 1);
            CHECK.due("MTIMECMP", x.register(0, 0, 13), 0);
            for (int other = 0; other < 4; other++) {
                CHECK.due("mip of hart " + other, x.control(0, other, 0x344), other == h ? 0x88 : 0);
            }
        }
        long[] compares = {0, 1, Long.MAX_VALUE, Long.MIN_VALUE, -1};
        long[] times = {0, 1, 2, Long.MAX_VALUE - 1, Long.MAX_VALUE, Long.MIN_VALUE, -2, -1};
        for (long compare : compares) {
            RiscMonitor x = Check.house(1, 1, "la s0,0x2004000", "la s1,d", "ld a0,0(s1)", "sd a0,0(s0)", "wfi", ".align 3",
                    "d: .dword 0x" + Long.toHexString(compare));
            x.run(0, 7);
            for (long time : times) {
                x.time(0, time);
                CHECK.due("MTIP of " + time + " and " + compare, x.control(0, 0, 0x344), Long.compareUnsigned(time, compare) >= 0 ? 128 : 0);
            }
        }
        RiscMonitor x = Check.house(1, 1, "la s0,0x200bff8", "li a0,-1", "sd a0,0(s0)", "ld a1,0(s0)", "csrr a2,0xc01");
        x.run(0, 4);
        CHECK.due("MTIME is stored", x.control(0, 0, 0xc01), -1);
        x.run(0, 2);
        CHECK.due("it wraps around", x.register(0, 0, 11), 0);
        CHECK.due("time is MTIME", x.register(0, 0, 12), 1);
    }

    /** Priorities of sources 4 .. 7, context 0's enabled bits and threshold, then CLAIMs into a0 .. a4. */
    private static RiscMonitor claims(int p4, int p5, int p6, int p7, int enabled, int threshold) {
        RiscMonitor x = Check.house(1, 1, "la s0,0xc000000", "la s1,0xc002000", "la s2,0xc200000", "li t0," + p4, "sw t0,16(s0)",
                "li t0," + p5, "sw t0,20(s0)",
                "li t0," + p6, "sw t0,24(s0)", "li t0," + p7, "sw t0,28(s0)", "li t0," + enabled, "sw t0,0(s1)", "li t0," + threshold,
                        "sw t0,0(s2)", "csrr s3,0x344",
                "lw a0,4(s2)", "lw a1,4(s2)", "lw a2,4(s2)", "lw a3,4(s2)", "lw a4,4(s2)", "csrr s4,0x344", "wfi");
        for (int s = 4; s <= 7; s++) {
            x.wire(0, s, true);
        }
        x.run(0, 30);
        return x;
    }

    private static void claimed(String what, RiscMonitor x, int... want) {
        for (int i = 0; i < 5; i++) {
            CHECK.due(what + ", claim " + i, x.register(0, 0, 10 + i), i < want.length ? want[i] : 0);
        }
        CHECK.due(what + ", MEIP ahead", x.register(0, 0, 19), want.length > 0 ? 2048 : 0);
        CHECK.due(what + ", MEIP behind", x.register(0, 0, 20), 0);
    }

    private static void priorities() {
        CHECK.about("term 6: CLAIM");
        claimed("the least of the same", claims(1, 1, 1, 1, 0xf0, 0), 4, 5, 6, 7);
        claimed("the greatest first", claims(1, 3, 2, 7, 0xf0, 0), 7, 5, 6, 4);
        claimed("priority 0 is none", claims(0, 1, 0, 0, 0xf0, 0), 5);
        claimed("its lowest three bits", claims(8, 9, 15, -1, 0xf0, 0), 6, 7, 5);
        claimed("above the threshold", claims(3, 4, 5, 6, 0xf0, 4), 7, 6);
        claimed("threshold 7", claims(7, 7, 7, 7, 0xf0, 7));
        claimed("threshold 6", claims(7, 6, 7, 5, 0xf0, 6), 4, 6);
        claimed("the threshold's lowest three bits", claims(1, 1, 1, 1, 0xf0, 8), 4, 5, 6, 7);
        claimed("enabled ones alone", claims(1, 2, 3, 4, 0x50, 0), 6, 4);
        claimed("none is enabled", claims(1, 2, 3, 4, 0x0f, 0));
        claimed("bit 0 and those above 7 are nothing", claims(1, 2, 3, 4, -256 | 1, 0));
        RiscMonitor x = Check.ran(30, "la s0,0xc000000", "li t0,-1", "sw t0,4(s0)", "lw a0,4(s0)", "sw t0,28(s0)", "lw a1,28(s0)",
                "la s1,0xc002000", "sw t0,0(s1)", "lw a2,0(s1)",
                "la s2,0xc200000", "sw t0,0(s2)", "lw a3,0(s2)", "la s3,0xc001000", "sw t0,0(s3)", "lw a4,0(s3)", "wfi");
        CHECK.due("the first source", x.register(0, 0, 10), 7);
        CHECK.due("the last", x.register(0, 0, 11), 7);
        CHECK.due("enabled", x.register(0, 0, 12), 0xfe);
        CHECK.due("threshold", x.register(0, 0, 13), 7);
        CHECK.due("PENDING can't be stored", x.register(0, 0, 14), 0);
    }

    /** Source 4 of priority 1 for context 0 is claimed; then lines, with s2 the claim's page, s3 PENDING, s1 enabled ones. */
    private static RiscMonitor served(String... lines) {
        RiscMonitor x = Check.house(1, 1, "la s0,0xc000000", "la s1,0xc002000", "la s2,0xc200000", "la s3,0xc001000", "li t0,1",
                "sw t0,16(s0)", "li t0,16", "sw t0,0(s1)",
                "lw a0,4(s2)", String.join("\n", lines), "wfi");
        x.wire(0, 4, true);
        x.run(0, 13);
        CHECK.due("claimed", x.register(0, 0, 10), 4);
        return x;
    }

    private static void service() {
        CHECK.about("term 6: IN SERVICE");
        int[] others = {0, 3, 5, 8, 16, -4, 0x40000004};
        for (int other : others) {
            RiscMonitor x = served("li t0," + other, "sw t0,4(s2)", "lw a1,0(s3)");
            x.run(0, 5);
            CHECK.due("stored " + other + ": nothing", x.register(0, 0, 11), 0);
        }
        RiscMonitor x = served("li t0,4", "sw t0,4(s2)", "lw a1,0(s3)", "lw a2,4(s2)", "lw a3,0(s3)");
        x.run(0, 5);
        CHECK.due("its wire is on: pending again", x.register(0, 0, 11), 16);
        CHECK.due("claimed again", x.register(0, 0, 12), 4);
        CHECK.due("not pending any more", x.register(0, 0, 13), 0);
        x = served("li t0,4", "sw t0,4(s2)", "lw a1,0(s3)", "lw a2,0(s3)");
        x.wire(0, 4, false);
        x.wire(0, 4, true);
        x.wire(0, 4, false);
        x.run(0, 3);
        CHECK.due("in service it doesn't come to be pending", x.register(0, 0, 11), 0);
        x.wire(0, 4, true);
        x.wire(0, 4, false);
        x.run(0, 1);
        CHECK.due("it stays pending, its wire off", x.register(0, 0, 12), 16);
        x = served("sw zero,0(s1)", "li t0,4", "sw t0,4(s2)", "lw a1,0(s3)", "li t1,16", "sw t1,0(s1)", "sw t0,4(s2)", "lw a2,0(s3)");
        x.run(0, 8);
        CHECK.due("not enabled: it stays in service", x.register(0, 0, 11), 0);
        CHECK.due("enabled again", x.register(0, 0, 12), 16);
        x.reset(0);
        x.run(0, 13);
        CHECK.due("behind a reset, too", x.register(0, 0, 10), 4);
        severalInService();
    }

    private static void severalInService() {
        RiscMonitor x = Check.house(1, 1, "la s0,0xc000000", "la s1,0xc002000", "la s2,0xc200000", "la s3,0xc001000", "li t0,1",
                "sw t0,16(s0)", "sw t0,20(s0)", "sw t0,24(s0)", "li t0,112", "sw t0,0(s1)",
                "lw a0,4(s2)", "lw a1,4(s2)", "sw zero,0(s2)", "lw a2,0(s3)", "li t0,4", "sw t0,4(s2)", "lw a3,0(s3)", "lw a4,0(s3)", "wfi");
        x.wire(0, 4, true);
        x.wire(0, 5, true);
        x.run(0, 21);
        CHECK.due("one", x.register(0, 0, 10), 4);
        CHECK.due("another", x.register(0, 0, 11), 5);
        CHECK.due("both are in service", x.register(0, 0, 12), 0);
        CHECK.due("one is no more", x.register(0, 0, 13), 16);
        x.wire(0, 6, true);
        x.wire(0, 5, true);
        x.run(0, 1);
        CHECK.due("a third was never; the other is still", x.register(0, 0, 14), 80);
    }

    /** A source enabled for one context alone, of four harts. */
    private static void contexts() {
        CHECK.about("term 6: CONTEXT");
        for (int c = 0; c < 8; c++) {
            RiscMonitor x = Check.house(4, 1, "csrr t0,0xf14", "bnez t0,0x80000100", "la s0,0xc000000", "la s1," + (0xc002000L + 0x80 * c),
                    "la s2," + (0xc200000L + 0x1000 * c), "li t0,7", "sw t0,28(s0)",
                    "li t0,128", "sw t0,0(s1)", "lw a0,4(s2)", "wfi");
            x.wire(0, 7, true);
            x.run(0, 48);
            for (int h = 0; h < 4; h++) {
                CHECK.due("context " + c + ", mip of hart " + h, x.control(0, h, 0x344), h == c / 2 ? c % 2 == 0 ? 2048 : 512 : 0);
            }
            x.run(0, 1);
            CHECK.due("claimed for it", x.register(0, 0, 10), 7);
            CHECK.due("mip", x.control(0, c / 2, 0x344), 0);
        }
    }

    private static void serialWire() {
        CHECK.about("term 6: WIRE 1");
        RiscMonitor x = Check.house(1, 1, "la s0,0x10000000", "la s3,0xc001000", "lw a0,0(s3)", "li t0,-1", "sb t0,1(s0)", "lb a1,1(s0)",
                "lw a2,0(s3)", "li t0,2", "sb t0,1(s0)", "lb a3,1(s0)", "wfi");
        x.key(0, 9);
        x.run(0, 20);
        CHECK.due("a key waits, bit 0 is unset", x.register(0, 0, 10), 0);
        CHECK.due("bit 0 alone", x.register(0, 0, 11), 1);
        CHECK.due("both", x.register(0, 0, 12), 2);
        CHECK.due("unset again", x.register(0, 0, 13), 0);
        x = Check.house(1, 1, "la s0,0x10000000", "la s3,0xc001000", "li t0,1", "sb t0,1(s0)", "lw a0,0(s3)", "lw a1,0(s3)", "lb a2,0(s0)",
                "lw a3,0(s3)");
        x.run(0, 7);
        CHECK.due("no key waits", x.register(0, 0, 10), 0);
        x.key(0, 0);
        x.run(0, 3);
        CHECK.due("a key, of 0 too", x.register(0, 0, 11), 2);
        CHECK.due("it stays pending", x.register(0, 0, 13), 2);
        x = Check.house(1, 1, "la s0,0x10000000", "la s1,0xc000000", "la s2,0xc002000", "la s3,0xc200000", "la s4,0xc001000", "li t0,1",
                "sb t0,1(s0)", "sw t0,4(s1)", "li t0,2", "sw t0,0(s2)", "lw a0,4(s3)", "lw a1,0(s4)", "lw a2,4(s3)", "wfi");
        x.key(0, 9);
        x.run(0, 20);
        CHECK.due("source 1 is claimed", x.register(0, 0, 10), 1);
        CHECK.due("it is not pending any more", x.register(0, 0, 11), 0);
        CHECK.due("nor claimed again", x.register(0, 0, 12), 0);
    }

    private static void deviceWires() {
        CHECK.about("term 6: WIRES 2 and 3");
        RiscMonitor x = Check.house(1, 1, "la s0,0x10001000", "la s1,0x10002000", "la s2,0xc200000", "la s3,0xc001000", "li t0,1",
                "la s4,0xc000000", "sw t0,8(s4)", "sw t0,12(s4)", "li t0,12", "la s5,0xc002000", "sw t0,0(s5)",
                "sw zero,16(s0)", "lw a0,0(s3)", "sw zero,24(s1)", "lw a1,0(s3)", "lw a2,4(s2)", "lw a3,4(s2)", "sw zero,20(s0)",
                        "li t0,2", "sw t0,4(s2)", "lw a4,0(s3)", "li t0,3", "sw t0,4(s2)", "lw a5,0(s3)", "wfi");
        x.run(0, 40);
        CHECK.due("the disk's", x.register(0, 0, 10), 4);
        CHECK.due("the copier's, too", x.register(0, 0, 11), 12);
        CHECK.due("claim", x.register(0, 0, 12), 2);
        CHECK.due("claim", x.register(0, 0, 13), 3);
        CHECK.due("its status is 0: its wire is off", x.register(0, 0, 14), 0);
        CHECK.due("the copier's status isn't", x.register(0, 0, 15), 8);
    }

    /** The disk's answer to a command: its status, behind which RAM and the sector are looked at. */
    private static RiscMonitor disk(long sector, long place, long command) {
        RiscMonitor x = Check.house(1, 2, "la s0,0x10001000", "la s1,d", "ld a0,0(s1)", "ld a1,8(s1)", "lw a2,16(s1)", "sd a0,0(s0)",
                "sd a1,8(s0)", "sw a2,16(s0)", "lw a3,20(s0)", "lw a4,16(s0)",
                "ld a5,0(s0)", "ld a6,8(s0)", "sw a3,20(s0)", "lw a7,20(s0)", "wfi", ".align 3",
                "d: .dword 0x" + Long.toHexString(sector), ".dword 0x" + Long.toHexString(place), ".word " + command);
        for (long at : new long[] {0, 63, 64, PAGE - 1, PAGE, 2 * PAGE - 65, 2 * PAGE - 64, 2 * PAGE - 1}) {
            x.poke(0, RAM + at, at == 0 ? 0x17 : 0x61);
        }
        x.picture(0);
        x.run(0, 30);
        CHECK.due("loaded 0", x.register(0, 0, 14), 0);
        CHECK.due("the number", x.register(0, 0, 15), sector);
        CHECK.due("the place", x.register(0, 0, 16), place);
        CHECK.due("status stored: 0", x.register(0, 0, 17), 0);
        return x;
    }

    private static void disk() {
        CHECK.about("term 6: DISK");
        long end = RAM + 2 * PAGE;
        long[][] good = {{0, RAM, 2}, {31, RAM, 2}, {0, end - 64, 2}, {31, end - 64, 1}, {0, RAM + PAGE - 1, 2}, {1, RAM + PAGE - 1, 1}};
        for (long[] row : good) {
            RiscMonitor x = disk(row[0], row[1], row[2]);
            CHECK.due("status of sector " + row[0] + " at " + Long.toHexString(row[1]), x.register(0, 0, 13), 1);
            if (row[2] == 2) {
                CHECK.due("its first byte", x.sector(0, (int) row[0], 0), x.cell(0, row[1]));
                CHECK.due("its last byte", x.sector(0, (int) row[0], 63), x.cell(0, row[1] + 63));
                CHECK.due("RAM stays", x.changed(0, 0), 0);
            } else {
                CHECK.due("the first byte", x.cell(0, row[1]), 0);
                CHECK.due("the last byte", x.cell(0, row[1] + 63), 0);
                CHECK.due("the byte ahead", x.cell(0, row[1] - 1), row[1] == end - 64 ? 0x61 : 0);
            }
        }
        long[][] bad = {{32, RAM, 1}, {-1, RAM, 1}, {1L << 32, RAM, 1}, {0, RAM - 1, 1}, {0, end - 63, 1}, {0, end, 1}, {0, 0, 1}, {0, -1,
                1}, {0, Long.MIN_VALUE, 1}, {0, RAM + (1L << 32), 1},
            {0, RAM + PAGE, 0}, {0, RAM + PAGE, 3}, {0, RAM + PAGE, 0x80000001L}, {31, end - 63, 2}, {32, RAM, 2}};
        for (long[] row : bad) {
            RiscMonitor x = disk(row[0], row[1], row[2]);
            CHECK.due("status of sector " + row[0] + " at " + Long.toHexString(row[1]) + ", command " + row[2], x.register(0, 0, 13), 2);
            CHECK.due("nothing is done", x.changed(0, 0), 0);
            CHECK.due("nor to sectors", x.sector(0, 0, 0) + x.sector(0, 31, 0) + x.sector(0, 31, 62), 0);
        }
    }

    /** The copier's answer: its status in a3; from page 1's beginning on there are bytes 1, 2, .. 8. */
    private static RiscMonitor copy(long from, long to, long count, long command) {
        RiscMonitor x = Check.house(1, 3, "la s0,0x10002000", "la s1,d", "ld a0,0(s1)", "ld a1,8(s1)", "ld a2,16(s1)", "lw a3,24(s1)",
                "sd a0,0(s0)", "sd a1,8(s0)", "sd a2,16(s0)", "sw a3,24(s0)", "lw a3,28(s0)", "lw a4,24(s0)",
                "ld a5,0(s0)", "ld a6,8(s0)", "ld a7,16(s0)", "sw a3,28(s0)", "lw a2,28(s0)", "j 0x8000004c", ".align 3",
                "d: .dword 0x" + Long.toHexString(from), ".dword 0x" + Long.toHexString(to), ".dword 0x" + Long.toHexString(count),
                        ".word " + command);
        for (int i = 0; i < 8; i++) {
            x.poke(0, RAM + PAGE + i, i + 1);
        }
        x.picture(0);
        x.run(0, 19);
        CHECK.due("loaded 0", x.register(0, 0, 14), 0);
        CHECK.due("from", x.register(0, 0, 15), from);
        CHECK.due("to", x.register(0, 0, 16), to);
        CHECK.due("count", x.register(0, 0, 17), count);
        CHECK.due("status stored: 0", x.register(0, 0, 12), 0);
        return x;
    }

    private static void copier() {
        CHECK.about("term 6: COPIER");
        long data = RAM + PAGE;
        long end = RAM + 3 * PAGE;
        long[][] good = {{data, end - 8, 8, 1}, {data, end - 1, 1, 1}, {RAM, RAM + 2 * PAGE, 4096, 1}, {data, data, 4096, 1}, {RAM, RAM, 0,
                1}, {end, end, 0, 1}, {end, RAM, 0, 1}, {RAM, end, 0, 1},
            {0, end - 4096, 4096, 2}, {-1, end - 1, 1, 2}, {0x1234, end, 0, 2}, {0, RAM, 0, 2}};
        for (long[] row : good) {
            CHECK.due("status of " + Long.toHexString(row[0]) + ", " + Long.toHexString(row[1]) + ", " + row[2] + ", " + row[3],
                    copy(row[0], row[1], row[2], row[3]).register(0, 0, 13), 1);
        }
        long[][] bad = {{data, end - 7, 8, 1}, {end - 7, data, 8, 1}, {data, RAM - 1, 1, 1}, {RAM - 1, data, 1, 1}, {data, RAM, 4097, 1},
                {0, RAM, 4097, 2}, {data, RAM, -1, 1}, {data, RAM, Long.MIN_VALUE, 1}, {data, RAM, -1, 2},
            {end + 1, RAM, 0, 1}, {RAM, end + 1, 0, 1}, {RAM - 1, RAM, 0, 1}, {RAM, RAM - 1, 0, 1}, {0, end + 1, 0, 2}, {0, RAM - 1, 0, 2},
                    {data, RAM, 1, 0}, {data, RAM, 1, 3}, {data, RAM, 0, 0},
            {0, end - 4095, 4096, 2}, {0, end, 1, 2}, {data, Long.MAX_VALUE, 1, 1}, {-8, data, 8, 1}, {data, -8, 8, 1}};
        for (long[] row : bad) {
            RiscMonitor x = copy(row[0], row[1], row[2], row[3]);
            CHECK.due("status of " + Long.toHexString(row[0]) + ", " + Long.toHexString(row[1]) + ", " + row[2] + ", " + row[3],
                    x.register(0, 0, 13), 2);
            CHECK.due("nothing is done", x.changed(0, 0), 0);
        }
    }

    private static void copierDirections() {
        CHECK.about("term 6: COPIER, one by one from the first on");
        long data = RAM + PAGE;
        CHECK.due("one on", Check.dword(copy(data, data + 1, 7, 1), 0, data), 0x0101010101010101L);
        CHECK.due("one back", Check.dword(copy(data + 1, data, 7, 1), 0, data), 0x0808070605040302L);
        CHECK.due("no more than count", Check.dword(copy(data, data + 4, 2, 1), 0, data), 0x0807020104030201L);
        CHECK.due("from's lowest byte", Check.dword(copy(0xabcdL, data + 2, 3, 2), 0, data), 0x080706cdcdcd0201L);
        CHECK.due("of no bytes", Check.dword(copy(0xabcdL, data, 0, 2), 0, data), 0x0807060504030201L);
        RiscMonitor x = copy(RAM, data, 4096, 1);
        CHECK.due("all of a page", x.cell(0, data + 4095), x.cell(0, RAM + 4095));
        CHECK.due("pages that changed", x.changed(0, 0), 1);
        x = copy(0x77, data + 1, 4096, 2);
        CHECK.due("the first", x.cell(0, data + 1), 0x77);
        CHECK.due("the last", x.cell(0, data + 4096), 0x77);
        CHECK.due("the one ahead", x.cell(0, data), 1);
        CHECK.due("the one behind", x.cell(0, data + 4097), 0);
    }

    private static void dog() {
        CHECK.about("term 6: DOG");
        for (int n = 1; n <= 4; n++) {
            RiscMonitor x = Check.house(1, 1, "la s0,0x10003000", "li a0," + n, "sd a0,0(s0)", "a: addi a1,a1,1", "j a");
            x.run(0, 4 + n - 1);
            CHECK.due(n + ": not yet", x.register(0, 0, 10), n);
            x.run(0, 1);
            CHECK.due(n + ": RESET", x.register(0, 0, 10), 0);
            CHECK.due("pc", x.hart(0, 0, 1), RAM);
            CHECK.due("the step counts", x.state(0, 5), 4 + n);
            CHECK.due("it does nothing more", x.state(0, 6), 4 + n - 1);
            CHECK.due("mcycle", x.control(0, 0, 0xb00), 0);
            CHECK.due("MTIME", x.control(0, 0, 0xc01), 4 + n);
        }
        RiscMonitor x = Check.house(1, 1, "la s0,0x10003000", "li a0,5", "sd a0,0(s0)", "ld a1,0(s0)", "sd zero,0(s0)", "ld a2,0(s0)",
                "li a0,-1", "sd a0,0(s0)", "ld a3,0(s0)", "a: j a");
        x.run(0, 100);
        CHECK.due("one less ahead of each step", x.register(0, 0, 11), 4);
        CHECK.due("0 is off", x.register(0, 0, 12), 0);
        CHECK.due("without sign", x.register(0, 0, 13), -2);
        CHECK.due("no RESET", x.register(0, 0, 10), -1);
        x = Check.house(1, 1, "la s0,0x10003000", "li a0,1", "li a1,-1", "csrw 0x304,a1", "csrrsi zero,0x300,8", "sd a0,0(s0)", "nop");
        x.run(0, 7);
        x.time(0, -2);
        x.run(0, 1);
        CHECK.due("the DOG is ahead of interrupts", x.control(0, 0, 0x342), 0);
        CHECK.due("MTIME grows ahead of it", x.control(0, 0, 0xc01), -1);
    }

    private static void chance() {
        CHECK.about("term 6: CHANCE");
        RiscMonitor x = Check.ran(9, "la s0,0x10004000", "li a0,-1", "sd a0,0(s0)", "ld a1,0(s0)", "ld a2,0(s0)", "wfi");
        long first = -6364136223846793005L + 1442695040888963407L;
        CHECK.due("of -1", x.register(0, 0, 11), first);
        CHECK.due("of that", x.register(0, 0, 12), first * 6364136223846793005L + 1442695040888963407L);
        x.reset(0);
        Check.make(x, 0, RAM, "la s0,0x10004000", "ld a1,0(s0)");
        x.run(0, 3);
        CHECK.due("1 behind a reset", x.register(0, 0, 11), 6364136223846793005L + 1442695040888963407L);
    }

    private static void fullOutput() {
        CHECK.about("term 6: 512 are kept");
        RiscMonitor x = Check.house(1, 1, "la s0,0x10000000", "a: sb a0,0(s0)", "addi a0,a0,1", "j a");
        x.run(0, 2);
        for (int n = 1; n <= 2; n++) {
            x.run(0, 3 * 255);
        }
        x.run(0, 3);
        CHECK.due("511", x.serial(0, 510), 510 & 255);
        CHECK.due("no 512th yet", x.serial(0, 511), -1);
        x.run(0, 3);
        CHECK.due("the 512th", x.serial(0, 511), 255);
        x.run(0, 3);
        CHECK.due("the 513th is lost", x.serial(0, 512), -1);
        CHECK.due("the first stays", x.serial(0, 0), 0);
        CHECK.due("the 512th stays", x.serial(0, 511), 255);
        x.reset(0);
        CHECK.due("behind a reset", x.serial(0, 511), 255);
        CHECK.due("a great number", x.serial(0, Integer.MAX_VALUE), -1);
        CHECK.due("the least number", x.serial(0, Integer.MIN_VALUE), -1);
    }

    private static void fullKeys() {
        CHECK.about("promise 16: 16 wait");
        RiscMonitor x = Check.house(1, 1, "la s0,0x10000000", "a: lbu a0,0(s0)", "j a");
        for (int i = 1; i <= 16; i++) {
            CHECK.due("key", x.key(0, i * 15), i);
        }
        CHECK.due("a 17th", x.key(0, 1), -1);
        x.run(0, 2);
        for (int i = 1; i <= 16; i++) {
            x.run(0, 1);
            CHECK.due("the first that waits", x.register(0, 0, 10), i * 15);
            x.run(0, 1);
        }
        x.run(0, 1);
        CHECK.due("0 without one", x.register(0, 0, 10), 0);
        CHECK.due("again", x.key(0, 0), 1);
        CHECK.due("again", x.key(0, 255), 2);
        CHECK.due("outside", x.key(0, 256), -4);
        CHECK.due("outside", x.key(0, -1), -4);
        CHECK.due("none came", x.key(0, 5), 3);
    }
}
