/** Promises 16 to 20: the serial line, wires, time and the disk, and the other devices by programs. */
public final class DeviceTest {
    private static final Check CHECK = new Check();
    private static final long RAM = Check.RAM;

    public static void main(String[] args) {
        keys();
        output();
        wires();
        controller();
        times();
        gate();
        sectors();
        copier();
        dog();
        chance();
        power();
        registers();
        CHECK.end();
    }

    private static void keys() {
        CHECK.about("promise 16");
        RiscMonitor x = Check.house(1, 1, "li s0,0x10000000", "lb a0,5(s0)", "lbu a1,0(s0)", "lbu a2,0(s0)", "lbu a3,0(s0)", "lb a4,5(s0)");
        CHECK.due("no such computer", x.key(1, -1), -2);
        CHECK.due("-1", x.key(0, -1), -4);
        CHECK.due("256", x.key(0, 256), -4);
        CHECK.due("255", x.key(0, 255), 1);
        CHECK.due("0", x.key(0, 7), 2);
        x.run(0, 7);
        CHECK.due("a key waits", x.register(0, 0, 10), 33);
        CHECK.due("the first key", x.register(0, 0, 11), 255);
        CHECK.due("the second key", x.register(0, 0, 12), 7);
        CHECK.due("none", x.register(0, 0, 13), 0);
        CHECK.due("no key waits", x.register(0, 0, 14), 32);
        for (int i = 1; i <= 16; i++) {
            CHECK.due("key " + i, x.key(0, i), i);
        }
        CHECK.due("-4 ahead of NONE", x.key(0, 300), -4);
        CHECK.due("16 wait", x.key(0, 1), -1);
        x.reset(0);
        x.record(0, true);
        for (int i = 0; i < 200; i++) {
            x.time(0, i);
        }
        CHECK.due("a record is full", x.key(0, 1), -1);
        x.record(0, false);
        CHECK.due("nothing was changed", x.key(0, 1), 1);
    }

    private static void output() {
        CHECK.about("promise 17");
        RiscMonitor x = Check.house(1, 1, "li s0,0x10000000", "li a0,0x1f1", "sb a0,0(s0)", "addi a0,a0,1", "sb a0,0(s0)", "sb a0,5(s0)");
        CHECK.due("no such computer", x.serial(1, 0), -2);
        CHECK.due("none yet", x.serial(0, 0), -1);
        x.run(0, 7);
        CHECK.due("the first", x.serial(0, 0), 0xf1);
        CHECK.due("the second", x.serial(0, 1), 0xf2);
        CHECK.due("no third", x.serial(0, 2), -1);
        CHECK.due("-1", x.serial(0, -1), -1);
        x.reset(0);
        CHECK.due("it stays behind a reset", x.serial(0, 1), 0xf2);
        x = Check.house(1, 1, "li s0,0x10000000", "a: sb a0,0(s0)", "addi a0,a0,1", "j a");
        x.run(0, 1600);
        CHECK.due("512 are kept", x.serial(0, 511), 255);
        CHECK.due("later ones are lost", x.serial(0, 512), -1);
    }

    private static void wires() {
        CHECK.about("promise 18");
        RiscMonitor x = Check.house(1, 1, "nop");
        CHECK.due("no such computer", x.wire(1, 0, true), -2);
        CHECK.due("3", x.wire(0, 3, true), -4);
        CHECK.due("8", x.wire(0, 8, true), -4);
        CHECK.due("it wasn't", x.wire(0, 4, true), 0);
        CHECK.due("it was", x.wire(0, 4, true), 1);
        CHECK.due("it was", x.wire(0, 4, false), 1);
        CHECK.due("it wasn't", x.wire(0, 4, false), 0);
        CHECK.due("another", x.wire(0, 7, true), 0);
        x.record(0, true);
        for (int i = 0; i < 200; i++) {
            x.wire(0, 5, true);
        }
        CHECK.due("-4 ahead of NONE", x.wire(0, 1, true), -4);
        CHECK.due("a record is full", x.wire(0, 5, false), -1);
        x.record(0, false);
        CHECK.due("nothing was changed", x.wire(0, 5, false), 1);
    }

    /** Sources 4, 5 and 6 for contexts 0 (M) and 1 (S), with priorities 3, 7, 7 (15 stored), then a line. */
    private static RiscMonitor controlled(String... lines) {
        return Check.house(1, 1, "li s0,0xc000000", "li s1,0xc002000", "li s2,0xc200000", "li s3,0xc001000",
                "li a0,3", "sw a0,16(s0)", "li a0,7", "sw a0,20(s0)", "li a0,15", "sw a0,24(s0)", "li a0,-1", "sw a0,0(s1)",
                String.join("\n", lines), "wfi");
    }

    private static void controller() {
        CHECK.about("promise 18, the controller");
        RiscMonitor x = controlled("lw a1,0(s1)", "lw a2,0(s3)", "sw zero,0(s3)", "lw a3,4(s2)", "lw a4,4(s2)", "lw a5,0(s3)",
                "lw a6,24(s0)", "lw a7,4(s2)", "lw t1,4(s2)");
        for (int s = 4; s <= 6; s++) {
            x.wire(0, s, true);
            x.wire(0, s, false);
        }
        x.run(0, 40);
        CHECK.due("enabled: bits 1 .. 7", x.register(0, 0, 11), 0xfe);
        CHECK.due("pending, the wires being off", x.register(0, 0, 12), 0x70);
        CHECK.due("CLAIM: the greatest, the least of these", x.register(0, 0, 13), 5);
        CHECK.due("the next", x.register(0, 0, 14), 6);
        CHECK.due("pending then; stores do nothing", x.register(0, 0, 15), 0x10);
        CHECK.due("a priority's lowest bits", x.register(0, 0, 16), 7);
        CHECK.due("the last", x.register(0, 0, 17), 4);
        CHECK.due("none", x.register(0, 0, 6), 0);
        x = controlled("li a0,11", "sw a0,0(s2)", "lw a1,0(s2)", "lw a2,4(s2)", "sw zero,0(s2)", "lw a3,4(s2)");
        x.wire(0, 4, true);
        x.run(0, 40);
        CHECK.due("threshold", x.register(0, 0, 11), 3);
        CHECK.due("a priority must be above it", x.register(0, 0, 12), 0);
        CHECK.due("above it", x.register(0, 0, 13), 4);
        CHECK.due("MEIP: nothing is left", x.control(0, 0, 0x344), 0);
        x = controlled("lw a1,4(s2)", "lw a2,0(s3)", "li a0,4", "sw a0,4(s2)", "lw a3,0(s3)", "lw a4,4(s2)", "sw zero,0(s1)",
                "sw a0,4(s2)", "lw a5,0(s3)");
        x.wire(0, 4, true);
        CHECK.due("MEIP not yet", x.control(0, 0, 0x344), 0);
        x.run(0, 40);
        CHECK.due("CLAIM", x.register(0, 0, 11), 4);
        CHECK.due("in service, its wire on: not pending", x.register(0, 0, 12), 0);
        CHECK.due("in service no more: pending", x.register(0, 0, 13), 16);
        CHECK.due("claimed again", x.register(0, 0, 14), 4);
        CHECK.due("not enabled: it stays in service", x.register(0, 0, 15), 0);
        x.reset(0);
        x.run(0, 16);
        CHECK.due("pending behind a reset", x.control(0, 0, 0x344), 2048);
        x = Check.house(1, 1, "li s0,0x10000000", "li a0,1", "sb a0,1(s0)", "li s1,0xc001000", "lw a1,0(s1)", "lbu a2,1(s0)", "wfi");
        x.key(0, 5);
        x.run(0, 9);
        CHECK.due("the serial line's wire", x.register(0, 0, 11), 2);
        CHECK.due("+1", x.register(0, 0, 12), 1);
        x = Check.house(1, 1, "li s0,0x10001000", "sw zero,16(s0)", "li s1,0x10002000", "sw zero,24(s1)", "li s2,0xc001000", "lw a1,0(s2)", "wfi");
        x.run(0, 20);
        CHECK.due("the disk's and the copier's", x.register(0, 0, 11), 12);
    }

    private static void times() {
        CHECK.about("promise 19");
        RiscMonitor x = Check.house(1, 1, "nop", "csrr a0,0xc01");
        CHECK.due("no such computer", x.time(1, 0), -2);
        CHECK.due("time", x.time(0, -2), 1);
        CHECK.due("MTIME", x.control(0, 0, 0xc01), -2);
        CHECK.due("MTIP isn't", x.control(0, 0, 0x344), 0);
        x.run(0, 1);
        CHECK.due("MTIP: not less, without sign", x.control(0, 0, 0x344), 128);
        x.run(0, 1);
        CHECK.due("it grows first", x.register(0, 0, 10), 0);
        x.record(0, true);
        for (int i = 0; i < 200; i++) {
            x.time(0, 5);
        }
        CHECK.due("a record is full", x.time(0, 6), -1);
        CHECK.due("nothing is changed", x.control(0, 0, 0xc01), 5);
    }

    private static void gate() {
        CHECK.about("promise 19, the gate");
        RiscMonitor x = Check.house(2, 1, "li s0,0x2000000", "li a0,-1", "sw a0,4(s0)", "lw a1,4(s0)", "lw a2,8(s0)");
        x.run(0, 9);
        CHECK.due("MSIP of hart 1", x.control(0, 1, 0x344), 8);
        CHECK.due("bit 0", x.register(0, 0, 11), 1);
        x.run(0, 2);
        CHECK.due("no hart 2", x.control(0, 0, 0x342), 5);
        x = Check.house(1, 1, "li s0,0x2004000", "ld a1,0(s0)", "li a0,100", "sd a0,0(s0)", "li s1,0x200bff8", "sd a0,0(s1)", "ld a2,0(s1)");
        x.run(0, 9);
        CHECK.due("all bits set at first", x.register(0, 0, 11), -1);
        CHECK.due("MTIME", x.register(0, 0, 12), 101);
        CHECK.due("MTIP", x.control(0, 0, 0x344), 128);
    }

    private static void sectors() {
        CHECK.about("promise 20");
        RiscMonitor x = Check.house(1, 2, "li s0,0x10001000", "li a0,31", "sd a0,0(s0)", "la a1,0x80000fc1", "sd a1,8(s0)", "li a2,2",
                "sw a2,16(s0)", "lw a3,20(s0)",
                "la a1,0x80001fc0", "sd a1,8(s0)", "li a2,1", "sw a2,16(s0)", "sw a2,20(s0)", "lw a4,20(s0)", "addi a1,a1,1",
                        "sd a1,8(s0)", "sw a2,16(s0)", "lw a5,20(s0)",
                "lw a6,16(s0)", "ld a7,0(s0)", "wfi");
        for (int i = 0; i < 64; i++) {
            x.poke(0, RAM + 0xfc1 + i, 100 + i);
        }
        x.run(0, 30);
        CHECK.due("no such computer", x.sector(1, 0, 0), -2);
        CHECK.due("sector 31", x.sector(0, 31, 0), 100);
        CHECK.due("its end", x.sector(0, 31, 63), 163);
        CHECK.due("sector 30", x.sector(0, 30, 63), 0);
        CHECK.due("no sector 32", x.sector(0, 32, 0), -1);
        CHECK.due("none below", x.sector(0, -1, 0), -1);
        CHECK.due("no byte 64", x.sector(0, 0, 64), -1);
        CHECK.due("none below", x.sector(0, 0, -1), -1);
        CHECK.due("it came to RAM", x.cell(0, RAM + 0x1fff), 163);
        CHECK.due("status", x.register(0, 0, 13), 1);
        CHECK.due("status behind a store", x.register(0, 0, 14), 0);
        CHECK.due("not wholly in RAM", x.register(0, 0, 15), 2);
        CHECK.due("a command is loaded as 0", x.register(0, 0, 16), 0);
        CHECK.due("the sector's number", x.register(0, 0, 17), 31);
        x.reset(0);
        CHECK.due("sectors stay", x.sector(0, 31, 0), 100);
        long[][] bad = {{32, 1}, {-1, 1}, {0, 3}, {0, 0}};
        for (long[] row : bad) {
            x = Check.ran(12, "li s0,0x10001000", "li a0," + row[0], "sd a0,0(s0)", "la a1,0x80001000", "sd a1,8(s0)", "li a2," + row[1],
                    "sw a2,16(s0)", "lw a3,20(s0)", "wfi");
            CHECK.due("sector " + row[0] + ", command " + row[1], x.register(0, 0, 13), 2);
        }
    }

    /** The copier's status of from, to, count and a command. */
    private static RiscMonitor copied(long from, long to, long count, int command) {
        RiscMonitor x = Check.house(1, 2, "li s0,0x10002000", "la s1,d", "ld a0,0(s1)", "ld a1,8(s1)", "ld a2,16(s1)", "sd a0,0(s0)",
                "sd a1,8(s0)", "sd a2,16(s0)",
                "li a3," + command, "sw a3,24(s0)", "lw a4,28(s0)", "lw a5,24(s0)", "sw a4,28(s0)", "lw a6,28(s0)", "wfi",
                ".align 3", "d: .dword 0x" + Long.toHexString(from), ".dword 0x" + Long.toHexString(to), ".dword 0x" + Long.toHexString(count),
                ".byte 11,12,13,14,15");
        x.run(0, 20);
        return x;
    }

    private static void copier() {
        CHECK.about("promise 20, the copier");
        long data = RAM + 72 + 24;
        RiscMonitor x = copied(data, RAM + 4096, 4, 1);
        CHECK.due("status", x.register(0, 0, 14), 1);
        CHECK.due("command", x.register(0, 0, 15), 0);
        CHECK.due("status stored", x.register(0, 0, 16), 0);
        CHECK.due("copied", Check.dword(x, 0, RAM + 4096), 0x0e0d0c0bL);
        x = copied(data, data + 2, 6, 1);
        CHECK.due("one by one from the first on", Check.dword(x, 0, data), 0x0c0b0c0b0c0b0c0bL);
        x = copied(0x1234567fL, RAM + 4095, 3, 2);
        CHECK.due("from's lowest byte", Check.dword(x, 0, RAM + 4095), 0x7f7f7fL);
        CHECK.due("status", x.register(0, 0, 14), 1);
        CHECK.due("the greatest count", copied(RAM, RAM + 4096, 4096, 1).register(0, 0, 14), 1);
        CHECK.due("above it", copied(RAM, RAM + 4096, 4097, 2).register(0, 0, 14), 2);
        CHECK.due("without sign", copied(RAM, RAM, -1, 1).register(0, 0, 14), 2);
        CHECK.due("another command", copied(RAM, RAM, 0, 3).register(0, 0, 14), 2);
        CHECK.due("to isn't wholly there", copied(RAM, RAM + 8191, 2, 2).register(0, 0, 14), 2);
        CHECK.due("from isn't", copied(RAM + 8191, RAM, 2, 1).register(0, 0, 14), 2);
        CHECK.due("of no bytes, just behind", copied(RAM + 8192, RAM + 8192, 0, 1).register(0, 0, 14), 1);
        CHECK.due("of no bytes, farther", copied(RAM, RAM + 8193, 0, 1).register(0, 0, 14), 2);
    }

    private static void dog() {
        CHECK.about("promise 7, the dog");
        RiscMonitor x = Check.house(2, 1, "li s0,0x10003000", "li a0,3", "sd a0,0(s0)", "ld a1,0(s0)", "nop", "nop", "nop");
        x.run(0, 7);
        CHECK.due("hart 0 stored", x.hart(0, 0, 1), RAM + 16);
        x.run(0, 1);
        CHECK.due("hart 1 stored anew", x.hart(0, 1, 1), RAM + 16);
        x.run(0, 2);
        CHECK.due("loaded, one less each step", x.register(0, 0, 11), 2);
        CHECK.due("not yet", x.register(0, 1, 11), 1);
        CHECK.due("turn", x.state(0, 4), 0);
        x.run(0, 1);
        CHECK.due("RESET", x.hart(0, 0, 1), RAM);
        CHECK.due("registers", x.register(0, 0, 8), 0);
        CHECK.due("the step counts", x.state(0, 5), 11);
        CHECK.due("and MTIME", x.control(0, 0, 0xc01), 11);
        CHECK.due("mcycle is 0", x.control(0, 0, 0xb00), 0);
        CHECK.due("turn", x.state(0, 4), 0);
        CHECK.due("instructions", x.state(0, 6), 10);
    }

    private static void chance() {
        CHECK.about("promise 7, chance");
        RiscMonitor x = Check.ran(6, "li s0,0x10004000", "ld a0,0(s0)", "ld a1,0(s0)", "sd zero,0(s0)", "ld a2,0(s0)");
        long first = 6364136223846793005L + 1442695040888963407L;
        CHECK.due("x is 1 at first", x.register(0, 0, 10), first);
        CHECK.due("then", x.register(0, 0, 11), first * 6364136223846793005L + 1442695040888963407L);
        CHECK.due("stored", x.register(0, 0, 12), 1442695040888963407L);
    }

    private static void power() {
        CHECK.about("promise 7, power");
        RiscMonitor x = Check.ran(5, "li s0,0x100000", "li a0,0x12345555", "sw a0,0(s0)");
        CHECK.due("OFF", x.state(0, 0), 1);
        CHECK.due("code 0", x.state(0, 1), 0);
        CHECK.due("the step is done", x.control(0, 0, 0xb02), 5);
        x = Check.ran(5, "li s0,0x100000", "li a0,-52429", "sw a0,0(s0)");
        CHECK.due("the highest 16 bits", x.state(0, 1), 0xffff);
        x = Check.ran(5, "li s0,0x100000", "li a0,0x17777", "sw a0,0(s0)");
        CHECK.due("RESET", x.hart(0, 0, 1), RAM);
        CHECK.due("behind both counters", x.control(0, 0, 0xb00), 0);
        CHECK.due("RUNNING", x.state(0, 0), 0);
        x = Check.ran(6, "li s0,0x100000", "li a0,0x5554", "sw a0,0(s0)", "lw a1,0(s0)");
        CHECK.due("others do nothing", x.state(0, 0), 0);
        CHECK.due("loaded 0", x.register(0, 0, 11), 0);
    }

    private static void registers() {
        CHECK.about("promise 7, places of registers");
        long[][] none = {{0xc000000L, 4}, {0xc000020L, 4}, {0xc002100L, 4}, {0xc202000L, 4}, {0xc200008L, 4}, {0x2000004L, 4}, {0x2004008L, 8},
            {0x10000002L, 1}, {0x10001018L, 8}, {0x10002020L, 8}, {0x10003008L, 8}, {0x10004008L, 8}, {0x100004L, 4}, {0x2004000L, 4},
                    {0x10001000L, 4}};
        for (long[] row : none) {
            RiscMonitor x = Check.ran(3, "li s0," + row[0], (row[1] == 8 ? "ld" : row[1] == 4 ? "lw" : "lb") + " a0,0(s0)");
            CHECK.due("no register of " + row[1] + " at " + Long.toHexString(row[0]), x.control(0, 0, 0x342), 5);
        }
    }
}
