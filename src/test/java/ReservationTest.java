/** Term 2: loads and stores of each size, and RESERVATIONS at the ends of their 64 bytes; promise 6 at RAM's end. */
public final class ReservationTest {
    private static final Check CHECK = new Check();
    private static final long RAM = Check.RAM;
    private static final long DATA = RAM + 0x1000;

    public static void main(String[] args) {
        stores();
        loads();
        held();
        ownStores();
        otherHarts();
        fromOutside();
        byDevices();
        conditional();
        reservedLoads();
        guestSizes();
        listedAtTheEnd();
        CHECK.end();
    }

    /** Stores of each size at each place of 8 bytes leave the bytes around. */
    private static void stores() {
        CHECK.about("term 2: 0x23");
        String[] names = {"sb", "sh", "sw", "sd"};
        for (int bits = 0; bits < 4; bits++) {
            int size = 1 << bits;
            for (int at = 0; at < 24; at += size) {
                RiscMonitor x = Check.house(1, 2, "la s0," + DATA, "la s1,d", "ld a0,0(s1)", names[bits] + " a0," + at + "(s0)",
                        "j 0x80000018", ".align 3", "d: .dword 0x0123456789abcdef");
                Check.make(x, 0, DATA, ".dword -1,-1,-1");
                x.run(0, 6);
                for (int i = 0; i < 24; i++) {
                    long want = i < at || i >= at + size ? 255 : 0x0123456789abcdefL >>> 8 * (i - at) & 255;
                    CHECK.due(names[bits] + " at " + at + ": byte " + i, x.cell(0, DATA + i), want);
                }
            }
        }
    }

    private static void loads() {
        CHECK.about("term 2: 0x03");
        String[] names = {"lb", "lh", "lw", "ld", "lbu", "lhu", "lwu"};
        long[] bytes = {0x80, 0x7f, 0xff, 0x01, 0x00, 0x80, 0x81, 0xfe, 0x7f, 0x80, 0xff, 0xff, 0x12, 0x34, 0x56, 0x78};
        StringBuilder row = new StringBuilder(".byte ");
        for (long b : bytes) {
            row.append(row.length() > 6 ? "," : "").append(b);
        }
        for (int k = 0; k < names.length; k++) {
            int size = 1 << (k & 3);
            for (int at = 0; at < 16; at += size) {
                // Both ends of the immediate's range, and a place between.
                int[] bases = {16, 2048, -2040};
                int base = bases[at / 8 + (k > 3 ? 1 : 0)];
                int n = at - base < -2048 || at - base > 2047 ? at - 16 : at - base;
                RiscMonitor x = Check.house(1, 2, "la s0," + (DATA + at - n), names[k] + " a0," + n + "(s0)");
                Check.make(x, 0, DATA, row.toString());
                x.run(0, 3);
                long want = 0;
                for (int i = 0; i < size; i++) {
                    want |= bytes[at + i] << 8 * i;
                }
                int shift = 64 - 8 * size;
                CHECK.due(names[k] + " at " + at, x.register(0, 0, 10), k < 4 ? want << shift >> shift : want);
            }
        }
    }

    /** Hart 0 has reserved at a place; hart 1's next step is a line. */
    private static RiscMonitor pair(long place, String line) {
        RiscMonitor x = Check.house(2, 3, "csrr t0,0xf14", "la s0," + DATA, "la s1," + place, "bnez t0,b", "lr.d a0,(s1)", "nop", "wfi",
                "b: nop", line, "nop", "wfi");
        x.run(0, 14);
        CHECK.due("reserved", x.hart(0, 0, 3), place & -64);
        return x;
    }

    private static void held() {
        CHECK.about("term 2: lr reserves the 64 bytes around");
        for (int at = 0; at < 136; at += 4) {
            RiscMonitor x = Check.ran(3, "la s0," + (DATA + at), "lr.w a0,(s0)");
            CHECK.due("lr.w at " + at, x.hart(0, 0, 3), DATA + at / 64 * 64);
        }
        RiscMonitor x = Check.ran(4, "la s0," + DATA, "lr.w a0,(s0)", "lr.d a0,(s0)");
        CHECK.due("one a hart", x.hart(0, 0, 3), DATA);
        x = Check.ran(8, "la s0," + DATA, "la s1," + (DATA + 64), "lr.w a0,(s0)", "lr.w a0,(s1)", "sc.w a1,a0,(s0)", "sc.w a2,a0,(s1)");
        CHECK.due("the newest", x.register(0, 0, 11), 1);
        CHECK.due("none behind an sc", x.register(0, 0, 12), 1);
    }

    private static void ownStores() {
        CHECK.about("term 2: own stores leave it");
        String[] lines = {"sd a0,0(s0)", "sb a0,63(s0)", "amoadd.w a1,a0,(s0)"};
        for (String line : lines) {
            RiscMonitor x = Check.ran(5, "la s0," + DATA, "lr.d a0,(s0)", line, "nop");
            CHECK.due(line, x.hart(0, 0, 3), DATA);
        }
    }

    private static void otherHarts() {
        CHECK.about("term 2: gone by any store of another hart into these");
        int[] places = {-8, -1, 0, 1, 62, 63, 64, 72};
        for (int at : places) {
            boolean inside = at >= 0 && at < 64;
            RiscMonitor x = pair(DATA + 64 + 8, "sb t0," + (64 + at) + "(s0)");
            x.run(0, 4);
            CHECK.due("sb at " + at, x.hart(0, 0, 3), inside ? -1 : DATA + 64);
        }
        String[] lines = {"sd t0,64(s0)", "sd t0,120(s0)", "sw t0,124(s0)", "sh t0,126(s0)", "amoadd.w t1,t0,(s1)", "amoor.d t1,zero,(s1)"};
        for (String line : lines) {
            RiscMonitor x = pair(DATA + 64, line);
            x.run(0, 4);
            CHECK.due(line, x.hart(0, 0, 3), -1);
        }
        String[] none = {"ld t1,64(s0)", "lr.d t1,(s1)", "sc.d t1,t0,(s1)", "sd t0,56(s0)", "sd t0,128(s0)", "sd t0,65(s0)"};
        for (String line : none) {
            RiscMonitor x = pair(DATA + 64, line);
            x.run(0, 4);
            CHECK.due(line + " leaves it", x.hart(0, 0, 3), DATA + 64);
        }
        RiscMonitor x = Check.house(2, 3, "la s1," + DATA, "lr.d a0,(s1)", "sc.d a1,a0,(s1)", "wfi");
        x.run(0, 6);
        CHECK.due("both reserve", x.hart(0, 0, 3) + x.hart(0, 1, 3), 2 * DATA);
        x.run(0, 1);
        CHECK.due("hart 0's sc", x.register(0, 0, 11), 0);
        CHECK.due("hart 1's is gone", x.hart(0, 1, 3), -1);
        x.run(0, 1);
        CHECK.due("hart 1's sc fails", x.register(0, 1, 11), 1);
    }

    private static RiscMonitor holding() {
        RiscMonitor x = Check.house(1, 3, "la s1," + (DATA + 72), "lr.w a0,(s1)", "wfi");
        x.run(0, 4);
        return x;
    }

    private static void fromOutside() {
        CHECK.about("term 2: or from outside");
        for (int at : new int[] {63, 64, 100, 127, 128}) {
            RiscMonitor x = holding();
            x.poke(0, DATA + at, x.cell(0, DATA + at));
            CHECK.due("poke() at " + at, x.hart(0, 0, 3), at >= 64 && at < 128 ? -1 : DATA + 64);
            x = holding();
            Check.make(x, 0, DATA + at, ".byte 1");
            CHECK.due("assemble() at " + at, x.hart(0, 0, 3), at >= 64 && at < 128 ? -1 : DATA + 64);
        }
        RiscMonitor x = holding();
        Check.make(x, 0, DATA + 60, ".word 1");
        CHECK.due("up to it", x.hart(0, 0, 3), DATA + 64);
        Check.make(x, 0, DATA, ".zero 65");
        CHECK.due("over its first byte", x.hart(0, 0, 3), -1);
        x = holding();
        Check.make(x, 0, DATA + 65, ".zero 0");
        CHECK.due("no bytes", x.hart(0, 0, 3), DATA + 64);
        Check.make(x, 0, DATA - 1, ".zero 200");
        CHECK.due("all of it", x.hart(0, 0, 3), -1);
        x = holding();
        x.wire(0, 4, true);
        x.key(0, 1);
        x.time(0, 1);
        CHECK.due("other inputs", x.hart(0, 0, 3), DATA + 64);
    }

    private static void byDevices() {
        CHECK.about("term 2: a device");
        for (int at : new int[] {0, 1, 63, 64, 127, 128}) {
            RiscMonitor x = Check.house(1, 3, "la s0,0x10001000", "la a1," + (DATA + at), "sd a1,8(s0)", "li a2,1", "la s1," + (DATA + 64),
                    "lr.w a0,(s1)", "sw a2,16(s0)", "wfi");
            x.run(0, 10);
            CHECK.due("the disk, from " + at, x.hart(0, 0, 3), at > 0 && at < 128 ? -1 : DATA + 64);
            x = Check.house(1, 3, "la s0,0x10002000", "la a1," + (DATA + at), "sd a1,8(s0)", "li a2,2", "la s1," + (DATA + 64),
                    "lr.w a0,(s1)", "sd a2,16(s0)", "sw a2,24(s0)", "wfi");
            x.run(0, 11);
            CHECK.due("the copier, from " + at, x.hart(0, 0, 3), at >= 63 && at < 128 ? -1 : DATA + 64);
        }
    }

    private static void conditional() {
        CHECK.about("term 2: sc");
        for (int at = 0; at <= 64; at += 4) {
            RiscMonitor x = Check.ran(7, "la s0," + DATA, "la s1," + (DATA + at), "lr.w a0,(s0)", "sc.w a1,s1,(s1)", "nop");
            CHECK.due("of this place, " + at, x.register(0, 0, 11), at == 0 ? 0 : 1);
            CHECK.due("stored", x.cell(0, DATA + at + 3), at == 0 ? 0x80 : 0);
            CHECK.due("none behind", x.hart(0, 0, 3), -1);
        }
        String[][] sizes = {{"lr.w", "sc.w", "0"}, {"lr.d", "sc.d", "0"}, {"lr.w", "sc.d", "1"}, {"lr.d", "sc.w", "1"}};
        for (String[] row : sizes) {
            RiscMonitor x = Check.ran(4, "la s0," + DATA, row[0] + " a0,(s0)", row[1] + " a1,s0,(s0)");
            CHECK.due(row[0] + ", " + row[1], x.register(0, 0, 11), Long.parseLong(row[2]));
        }
        RiscMonitor x = Check.ran(3, "la s0,0x80000000", "sc.w a0,a0,(zero)");
        CHECK.due("the access is looked at first", x.control(0, 0, 0x342), 7);
        CHECK.due("rd stays", x.register(0, 0, 10), 0);
        x = Check.ran(4, "la s0," + DATA, "lr.w s0,(s0)", "nop");
        CHECK.due("rd may be rs1", x.register(0, 0, 8), 0);
        CHECK.due("reserved", x.hart(0, 0, 3), DATA);
        x = Check.ran(4, "la s0," + DATA, "lr.w a0,(s0)", "sc.w s0,s0,(s0)");
        CHECK.due("b is stored ahead of rd", x.cell(0, DATA + 3), 0x80);
        CHECK.due("rd", x.register(0, 0, 8), 0);
        x = Check.ran(4, "la s0," + DATA, "amoadd.d s0,s0,(s0)", "nop");
        CHECK.due("amo: what is stored", Check.dword(x, 0, DATA), DATA);
        CHECK.due("rd", x.register(0, 0, 8), 0);
    }

    private static void reservedLoads() {
        CHECK.about("term 2: lr");
        RiscMonitor x = Check.house(1, 2, "la s0," + DATA, "lr.w a0,(s0)", "lr.d a1,(s0)");
        Check.make(x, 0, DATA, ".dword 0x7123456789abcdef");
        x.run(0, 4);
        CHECK.due("of 32 bits, sign filled", x.register(0, 0, 10), 0xffffffff89abcdefL);
        CHECK.due("of 64", x.register(0, 0, 11), 0x7123456789abcdefL);
    }

    /** hlv, hlvx and hsv of each size; no stage is on, so the places are physical. */
    private static void guestSizes() {
        CHECK.about("term 2: hlv, hsv");
        String[] loads = {"hlv.b", "hlv.bu", "hlv.h", "hlv.hu", "hlvx.hu", "hlv.w", "hlv.wu", "hlvx.wu", "hlv.d"};
        int[] sizes = {1, 1, 2, 2, 2, 4, 4, 4, 8};
        long data = 0xf1e2d3c4b5a69788L;
        for (int i = 0; i < loads.length; i++) {
            for (int at = 0; at <= 8; at++) {
                RiscMonitor x = Check.house(1, 2, "la s0," + (DATA + at), loads[i] + " a0,(s0)");
                Check.make(x, 0, DATA, ".dword 0x" + Long.toHexString(data) + ",0x" + Long.toHexString(~data));
                x.run(0, 3);
                boolean even = at % sizes[i] == 0;
                int shift = 64 - 8 * sizes[i];
                long raw = (at == 8 ? ~data : data >>> 8 * at) << shift;
                boolean signed = !loads[i].endsWith("u");
                CHECK.due(loads[i] + " at " + at + ": cause", x.control(0, 0, 0x342), even ? 0 : 4);
                CHECK.due(loads[i] + " at " + at, x.register(0, 0, 10), !even ? 0 : signed ? raw >> shift : raw >>> shift);
            }
        }
        String[] stores = {"hsv.b", "hsv.h", "hsv.w", "hsv.d"};
        for (int bits = 0; bits < 4; bits++) {
            for (int at = 0; at <= 8; at++) {
                RiscMonitor x = Check.house(1, 2, "la s0," + (DATA + at), stores[bits] + " zero,(s0)");
                Check.make(x, 0, DATA, ".dword -1,-1");
                x.run(0, 3);
                boolean even = at % (1 << bits) == 0;
                CHECK.due(stores[bits] + " at " + at + ": cause", x.control(0, 0, 0x342), even ? 0 : 6);
                for (int i = 0; i < 16; i++) {
                    boolean stored = even && i >= at && i < at + (1 << bits);
                    CHECK.due(stores[bits] + " at " + at + ": byte " + i, x.cell(0, DATA + i), stored ? 0 : 255);
                }
            }
        }
    }

    private static void listedAtTheEnd() {
        CHECK.about("promise 6: at RAM's end");
        RiscMonitor x = new RiscMonitor();
        x.computer(1, 1);
        Check.make(x, 0, RAM + 4088, ".byte 0x13,0x13,0x13,0x13,0x13,0x13,0x13,0x13");
        CHECK.due("four bytes", Check.listed(x, 0, RAM + 4092), Table.listed(0x13131313));
        CHECK.due("three bytes", Check.listed(x, 0, RAM + 4093), ".half 4883");
        CHECK.due("two bytes", Check.listed(x, 0, RAM + 4094), ".half 4883");
        CHECK.due("one byte", x.list(0, RAM + 4095, 0), -1);
        CHECK.due("none", x.list(0, RAM + 4096, 0), -1);
        CHECK.due("ahead", x.list(0, RAM - 1, 0), -1);
        CHECK.due("an odd place", Check.listed(x, 0, RAM + 4089), Table.listed(0x13131313));
        CHECK.due("behind its end", x.list(0, RAM + 4094, 10), -1);
        CHECK.due("its last sign", x.list(0, RAM + 4094, 9), '3');
        CHECK.due("i below 0", x.list(0, RAM + 4094, -1), -1);
        CHECK.due("a great i", x.list(0, RAM + 4094, Integer.MAX_VALUE), -1);
        CHECK.due("the least i", x.list(0, RAM + 4094, Integer.MIN_VALUE), -1);
    }
}
