import java.util.Set;
import java.util.TreeSet;

/** Term 6, promise 15: each device's registers, from the first place to the last, with their sizes alone. */
public final class PlacesTest {
    private static final Check CHECK = new Check();
    private static final String[] LOADS = {"lb", "lh", "lw", "ld"};
    private static final String[] STORES = {"sb", "sh", "sw", "sd"};

    public static void main(String[] args) {
        for (int harts = 1; harts <= 4; harts++) {
            around(harts, registers(harts));
        }
        atomics();
        walks();
        CHECK.end();
    }

    /** The registers of a computer: places times 16, and sizes. */
    private static Set<Long> registers(int harts) {
        Set<Long> all = new TreeSet<>();
        add(all, 4, 0x100000, 0xc001000, 0x10001010, 0x10001014, 0x10002018, 0x1000201c);
        add(all, 8, 0x200bff8, 0x10001000, 0x10001008, 0x10002000, 0x10002008, 0x10002010, 0x10003000, 0x10004000);
        add(all, 1, 0x10000000, 0x10000001, 0x10000005);
        for (long s = 1; s <= 7; s++) {
            add(all, 4, 0xc000000 + 4 * s);
        }
        for (long h = 0; h < harts; h++) {
            add(all, 4, 0x2000000 + 4 * h);
            add(all, 8, 0x2004000 + 8 * h);
        }
        for (long c = 0; c < 2 * harts; c++) {
            add(all, 4, 0xc002000 + 0x80 * c, 0xc200000 + 0x1000 * c, 0xc200004 + 0x1000 * c);
        }
        return all;
    }

    private static void add(Set<Long> all, long size, long... places) {
        for (long place : places) {
            all.add(place * 16 + size);
        }
    }

    /** All places near to registers, in each size: an access fault where no register is just so. */
    private static void around(int harts, Set<Long> all) {
        CHECK.about("term 6: just a device's register, with its size; harts " + harts);
        Set<Long> looked = new TreeSet<>();
        for (long register : registers(4)) {
            for (int bits = 0; bits < 4; bits++) {
                int size = 1 << bits;
                for (long place = register / 16 / size * size - 8; place <= register / 16 + 8; place += size) {
                    if (looked.add(place * 16 + size)) {
                        boolean there = all.contains(place * 16 + size);
                        access(harts, LOADS[bits] + " a0,0(s0)", place, there ? 0 : 5);
                        access(harts, STORES[bits] + " zero,0(s0)", place, there ? 0 : 7);
                    }
                }
            }
        }
    }

    private static void access(int harts, String line, long place, long cause) {
        RiscMonitor x = Check.house(harts, 1, "csrr t0,0xf14", "bnez t0,0x80000100", "la s0," + place, line);
        x.run(0, 4 * harts + 1);
        CHECK.due(line + " at " + Long.toHexString(place), x.control(0, 0, 0x342), cause);
    }

    private static void atomics() {
        CHECK.about("term 5: but for fetch and 0x2f");
        for (long register : registers(1)) {
            long place = register / 16;
            long size = register % 16;
            if (size >= 4) {
                String end = size == 4 ? ".w" : ".d";
                access(1, "lr" + end + " a0,(s0)", place, 5);
                access(1, "sc" + end + " a0,a0,(s0)", place, 7);
                access(1, "amoor" + end + " a0,zero,(s0)", place, 7);
            }
            if (place % 2 == 0) {
                RiscMonitor x = Check.ran(4, "la s0," + place, "jr s0");
                CHECK.due("fetch at " + Long.toHexString(place), x.control(0, 0, 0x342), 1);
            }
        }
    }

    private static void walks() {
        CHECK.about("promise 15: of theirs a place of a register of one byte is told");
        RiscMonitor x = new RiscMonitor();
        x.computer(1, 1);
        for (long place = 0x0ffffffeL; place <= 0x10000007L; place++) {
            boolean there = place == 0x10000000L || place == 0x10000001L || place == 0x10000005L;
            CHECK.due("load " + Long.toHexString(place), x.walk(0, 0, place, 1), there ? place : -15);
            CHECK.due("store " + Long.toHexString(place), x.walk(0, 0, place, 2), there ? place : -17);
            CHECK.due("fetch " + Long.toHexString(place), x.walk(0, 0, place, 0), -11);
        }
        for (long far : new long[] {1L << 32, 1L << 63, -1L << 32, 1L << 55}) {
            CHECK.due("a place far away", x.walk(0, 0, 0x10000000L + far, 1), -15);
            CHECK.due("a place far away, store", x.walk(0, 0, 0x10000005L + far, 2), -17);
        }
        for (long register : registers(1)) {
            if (register % 16 != 1) {
                CHECK.due("load " + Long.toHexString(register / 16), x.walk(0, 0, register / 16, 1), -15);
            }
        }
    }
}
