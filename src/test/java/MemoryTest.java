/** Promises 13 to 15: RAM, and where an access goes: paging, protection, devices, and its faults. */
public final class MemoryTest {
    private static final Check CHECK = new Check();
    private static final long RAM = Check.RAM;
    private static final int FETCH = 0;
    private static final int LOAD = 1;
    private static final int STORE = 2;
    /** V, R, W, X, U, A, D of a table's entry. */
    private static final long V = 1;
    private static final long R = 2;
    private static final long W = 4;
    private static final long X = 8;
    private static final long U = 16;
    private static final long A = 64;
    private static final long D = 128;
    private static final long SV39 = 8L << 60;

    public static void main(String[] args) {
        cells();
        physical();
        onePage();
        levels();
        guestStages();
        protection();
        misaligned();
        faultValues();
        guestLoads();
        CHECK.end();
    }

    private static void cells() {
        CHECK.about("promise 13");
        RiscMonitor x = new RiscMonitor();
        x.computer(1, 1);
        CHECK.due("cell of no computer", x.cell(1, RAM), -2);
        CHECK.due("cell ahead of RAM", x.cell(0, RAM - 1), -1);
        CHECK.due("cell behind RAM", x.cell(0, RAM + 4096), -1);
        CHECK.due("cell at -1", x.cell(0, -1), -1);
        CHECK.about("promise 14");
        CHECK.due("poke of no computer", x.poke(1, 0, 0), -2);
        CHECK.due("poke ahead of RAM", x.poke(0, RAM - 1, 0), -4);
        CHECK.due("poke behind RAM", x.poke(0, RAM + 4096, 0), -4);
        CHECK.due("poke", x.poke(0, RAM + 4095, -2), 1);
        CHECK.due("its lowest bits", x.cell(0, RAM + 4095), 254);
        CHECK.due("the byte ahead", x.cell(0, RAM + 4094), 0);
        x.record(0, true);
        for (int i = 0; i < 200; i++) {
            CHECK.due("poke " + i, x.poke(0, RAM, i), 1);
        }
        CHECK.due("-4 ahead of NONE", x.poke(0, 0, 1), -4);
        CHECK.due("a record is full", x.poke(0, RAM, 7), -1);
        CHECK.due("nothing is changed", x.cell(0, RAM), 199);
        x.record(0, false);
        CHECK.due("without a record", x.poke(0, RAM, 7), 1);
    }

    private static void physical() {
        CHECK.about("promise 15");
        RiscMonitor x = new RiscMonitor();
        x.computer(2, 2);
        CHECK.due("no such computer", x.walk(1, 0, RAM, 5), -2);
        CHECK.due("no such hart", x.walk(0, 2, RAM, 5), -2);
        CHECK.due("no such kind", x.walk(0, 1, RAM, 3), -4);
        CHECK.due("no such kind", x.walk(0, 1, RAM, -1), -4);
        CHECK.due("RAM", x.walk(0, 1, RAM + 8191, STORE), RAM + 8191);
        CHECK.due("behind RAM, fetch", x.walk(0, 1, RAM + 8192, FETCH), -11);
        CHECK.due("behind RAM, load", x.walk(0, 1, RAM + 8192, LOAD), -15);
        CHECK.due("behind RAM, store", x.walk(0, 1, RAM + 8192, STORE), -17);
        CHECK.due("a register of one byte", x.walk(0, 1, 0x10000005L, STORE), 0x10000005L);
        CHECK.due("not for fetch", x.walk(0, 1, 0x10000000L, FETCH), -11);
        CHECK.due("one of four bytes", x.walk(0, 1, 0x100000L, LOAD), -15);
        x.key(0, 9);
        x.walk(0, 0, 0x10000000L, LOAD);
        CHECK.due("devices are not touched", x.key(0, 9), 2);
    }

    private static void entry(RiscMonitor x, long at, long value) {
        for (int i = 0; i < 8; i++) {
            x.poke(0, at + i, (int) (value >>> 8 * i) & 255);
        }
    }

    private static long leaf(long place, long bits) {
        return place >>> 12 << 10 | bits;
    }

    private static String set(int number, long value) {
        return "ld t0,0(s0)\naddi s0,s0,8\ncsrw " + number + ",t0\n";
    }

    /** A computer whose control registers have values (pairs: number, value), then mret with MPP, MPV as told. */
    private static RiscMonitor machine(long mpp, boolean guest, long... pairs) {
        StringBuilder text = new StringBuilder("la s0,d\n");
        StringBuilder data = new StringBuilder();
        long status = mpp << 11 | (guest ? 1L << 39 : 0);
        for (int i = 0; i < pairs.length; i += 2) {
            if (pairs[i] == 0x300) {
                status |= pairs[i + 1];
                continue;
            }
            text.append(set((int) pairs[i], 0));
            data.append(".dword 0x").append(Long.toHexString(pairs[i + 1])).append('\n');
        }
        text.append(set(0x300, 0));
        data.append(".dword 0x").append(Long.toHexString(status)).append('\n');
        boolean stays = (status & 1 << 17) != 0;
        text.append(stays ? "wfi\n" : "la t0,w\ncsrw 0x341,t0\nmret\nw: nop\n").append(".align 3\nd:\n").append(data);
        RiscMonitor x = Check.house(1, 16, text.toString());
        // Behind mret the hart is at w, whatever paging is then; nothing more is done.
        for (int i = 0; i < 100 && (stays ? x.hart(0, 0, 2) == 0 : x.hart(0, 0, 0) == 3); i++) {
            x.run(0, 1);
        }
        return x;
    }

    /** satp at page 4; level 2's entry 0 goes to page 5, its entry 0 to page 6. */
    private static void tables(RiscMonitor x, long bits) {
        entry(x, RAM + 4 * 4096, leaf(RAM + 5 * 4096, V));
        entry(x, RAM + 5 * 4096, leaf(RAM + 6 * 4096, V));
        entry(x, RAM + 6 * 4096 + 8 * 3, leaf(RAM + 7 * 4096, bits));
    }

    private static long satp() {
        return SV39 | (RAM >>> 12) + 4;
    }

    private static void paged(String what, int mode, long status, long bits, int kind, long want) {
        RiscMonitor x = machine(mode, false, 0x180, satp(), 0x300, status);
        tables(x, bits);
        CHECK.due(what, x.walk(0, 0, 3 * 4096 + 5, kind), want);
    }

    private static void onePage() {
        CHECK.about("promise 15, Sv39");
        long place = RAM + 7 * 4096 + 5;
        long sum = 1 << 18;
        long mxr = 1 << 19;
        long all = V | R | W | X | A | D;
        paged("load", 1, 0, all, LOAD, place);
        paged("store", 1, 0, all, STORE, place);
        paged("fetch", 1, 0, all, FETCH, place);
        paged("not V", 1, 0, all & ~V, FETCH, -22);
        paged("W without R", 1, 0, V | W | X | A | D, LOAD, -23);
        paged("store without W", 1, 0, all & ~W, STORE, -25);
        paged("fetch without X", 1, 0, all & ~X, FETCH, -22);
        paged("load without R", 1, 0, V | X | A, LOAD, -23);
        paged("load without R, MXR", 1, mxr, V | X | A, LOAD, place);
        paged("store, MXR", 1, mxr, V | X | A | D, STORE, -25);
        paged("A unset", 1, 0, all & ~A, LOAD, -23);
        paged("D unset, load", 1, 0, all & ~D, LOAD, place);
        paged("D unset, store", 1, 0, all & ~D, STORE, -25);
        paged("U unset in U", 0, 0, all, LOAD, -23);
        paged("U in U", 0, 0, all | U, FETCH, place);
        paged("U in S", 1, 0, all | U, LOAD, -23);
        paged("U in S, SUM", 1, sum, all | U, STORE, place);
        paged("U in S, SUM, fetch", 1, sum, all | U, FETCH, -22);
        paged("bit 54", 1, 0, all | 1L << 54, LOAD, -23);
        paged("bit 63", 1, 0, all | 1L << 63, LOAD, -23);
        paged("bits 5, 8, 9 do not matter", 1, 0, all | 0x320, LOAD, place);
        paged("below level 0", 1, 0, V, LOAD, -23);
        RiscMonitor x = machine(3, false, 0x180, satp());
        CHECK.due("in M the address is physical", x.walk(0, 0, RAM + 5, LOAD), RAM + 5);
        x = machine(1, false, 0x180, (RAM >>> 12) + 4);
        CHECK.due("MODE 0", x.walk(0, 0, RAM + 5, LOAD), RAM + 5);
        x = machine(1, false, 0x180, satp(), 0x300, 1 << 17);
        tables(x, all);
        CHECK.due("MPRV, load", x.walk(0, 0, 3 * 4096 + 5, LOAD), place);
        CHECK.due("MPRV, not for fetch", x.walk(0, 0, RAM + 5, FETCH), RAM + 5);
        x = machine(3, true, 0x180, satp(), 0x300, 1 << 17);
        CHECK.due("MPRV with MPP 3", x.walk(0, 0, RAM + 5, LOAD), RAM + 5);
    }

    private static void levels() {
        CHECK.about("promise 15, tables");
        long all = V | R | W | X | A | D;
        RiscMonitor x = machine(1, false, 0x180, satp());
        tables(x, all);
        CHECK.due("bits 39 .. 63 not as bit 38", x.walk(0, 0, 1L << 38, LOAD), -23);
        CHECK.due("bit 39", x.walk(0, 0, 1L << 39 | 3 * 4096, LOAD), -23);
        entry(x, RAM + 4 * 4096 + 511 * 8, leaf(RAM, all));
        CHECK.due("the highest 2^30 bytes", x.walk(0, 0, -(1L << 30) + 77, LOAD), RAM + 77);
        entry(x, RAM + 4 * 4096 + 511 * 8, leaf(RAM + 4096, all));
        CHECK.due("a great page not aligned", x.walk(0, 0, -(1L << 30) + 77, LOAD), -23);
        entry(x, RAM + 5 * 4096 + 8, leaf(RAM, all));
        CHECK.due("a page of 2^21", x.walk(0, 0, (1 << 21) + 4097, LOAD), RAM + 4097);
        entry(x, RAM + 5 * 4096 + 8, leaf(RAM + 4096, all));
        CHECK.due("not aligned", x.walk(0, 0, (1 << 21) + 4097, LOAD), -23);
        long[] odd = {A, D, U};
        for (long bit : odd) {
            entry(x, RAM + 5 * 4096, leaf(RAM + 6 * 4096, V | bit));
            CHECK.due("a table's entry with " + bit, x.walk(0, 0, 3 * 4096, STORE), -25);
        }
        entry(x, RAM + 5 * 4096, leaf(RAM + 16 * 4096, V));
        CHECK.due("a table that is not in RAM, fetch", x.walk(0, 0, 3 * 4096, FETCH), -11);
        CHECK.due("load", x.walk(0, 0, 3 * 4096, LOAD), -15);
        CHECK.due("store", x.walk(0, 0, 3 * 4096, STORE), -17);
        entry(x, RAM + 5 * 4096, leaf(0x10000000L, V));
        CHECK.due("a table in a device", x.walk(0, 0, 3 * 4096, LOAD), -15);
        tables(x, all);
        entry(x, RAM + 6 * 4096 + 8 * 3, leaf(RAM + 16 * 4096, all));
        CHECK.due("a page that is not in RAM", x.walk(0, 0, 3 * 4096, LOAD), -15);
    }

    /** The guest's addresses from 0 on are RAM from its beginning on; its page 3 is its own page 7. */
    private static void guestTables(RiscMonitor x, long bits) {
        entry(x, RAM + 8 * 4096, leaf(RAM + 12 * 4096, V));
        entry(x, RAM + 12 * 4096, leaf(RAM + 13 * 4096, V));
        for (int page = 0; page < 16; page++) {
            entry(x, RAM + 13 * 4096 + 8 * page, leaf(RAM + page * 4096, V | R | W | X | U | A | D));
        }
        entry(x, RAM + 4 * 4096, leaf(5 * 4096, V));
        entry(x, RAM + 5 * 4096, leaf(6 * 4096, V));
        entry(x, RAM + 6 * 4096 + 8 * 3, leaf(7 * 4096, bits));
    }

    /** hgatp at page 8 (four pages), vsatp, if it is paged, at the guest's page 4. */
    private static RiscMonitor guest(int mode, boolean paged, long status, long own) {
        RiscMonitor x = machine(mode, true, 0x680, SV39 | (RAM >>> 12) + 8, 0x280, paged ? SV39 | 4 : 0, 0x300, status, 0x200, own);
        guestTables(x, V | R | W | X | A | D);
        return x;
    }

    private static void guestStages() {
        CHECK.about("promise 15, two stages");
        RiscMonitor x = guest(1, false, 0, 0);
        long last = RAM + 13 * 4096 + 8 * 7;
        CHECK.due("G-stage alone", x.walk(0, 0, 7 * 4096 + 1, LOAD), RAM + 7 * 4096 + 1);
        CHECK.due("a page that isn't there, fetch", x.walk(0, 0, 16 * 4096, FETCH), -30);
        CHECK.due("load", x.walk(0, 0, 16 * 4096, LOAD), -31);
        CHECK.due("store", x.walk(0, 0, 16 * 4096, STORE), -33);
        CHECK.due("bits 41 .. 63", x.walk(0, 0, 1L << 41, LOAD), -31);
        entry(x, RAM + 8 * 4096 + 8 * 2047, leaf(RAM, V | R | U | A));
        CHECK.due("the index has 11 bits", x.walk(0, 0, (1L << 41) - (1 << 30) + 9, LOAD), RAM + 9);
        entry(x, last, leaf(RAM + 7 * 4096, V | R | W | A | D));
        CHECK.due("U unset", x.walk(0, 0, 7 * 4096, LOAD), -31);
        x = guest(1, true, 0, 0);
        CHECK.due("both stages", x.walk(0, 0, 3 * 4096 + 1, LOAD), RAM + 7 * 4096 + 1);
        CHECK.due("VS-stage's fault", x.walk(0, 0, 4 * 4096, STORE), -25);
        entry(x, RAM + 13 * 4096 + 8 * 5, leaf(RAM + 5 * 4096, V | X | U | A));
        CHECK.due("a table that the guest can't read, store", x.walk(0, 0, 3 * 4096, STORE), -33);
        CHECK.due("fetch", x.walk(0, 0, 3 * 4096, FETCH), -30);
        x = guest(1, true, 1 << 19, 0);
        entry(x, RAM + 13 * 4096 + 8 * 5, leaf(RAM + 5 * 4096, V | X | U | A));
        CHECK.due("MXR is mstatus'", x.walk(0, 0, 3 * 4096, LOAD), RAM + 7 * 4096);
        x = guest(1, true, 0, 1 << 19);
        entry(x, last, leaf(RAM + 7 * 4096, V | X | U | A));
        CHECK.due("vsstatus' MXR does nothing in G-stage", x.walk(0, 0, 3 * 4096, LOAD), -31);
        entry(x, last, leaf(RAM + 7 * 4096, V | R | X | U | A));
        entry(x, RAM + 6 * 4096 + 8 * 3, leaf(7 * 4096, V | X | A));
        CHECK.due("but in VS-stage", x.walk(0, 0, 3 * 4096, LOAD), RAM + 7 * 4096);
        x = guest(1, true, 1 << 18, 0);
        entry(x, RAM + 6 * 4096 + 8 * 3, leaf(7 * 4096, V | R | A | U));
        CHECK.due("mstatus' SUM does nothing in VS", x.walk(0, 0, 3 * 4096, LOAD), -23);
        x = guest(1, true, 0, 1 << 18);
        entry(x, RAM + 6 * 4096 + 8 * 3, leaf(7 * 4096, V | R | A | U));
        CHECK.due("vsstatus' SUM does", x.walk(0, 0, 3 * 4096, LOAD), RAM + 7 * 4096);
        entry(x, RAM + 12 * 4096, leaf(RAM + 16 * 4096, V));
        CHECK.due("a table of G-stage that is not in RAM", x.walk(0, 0, 3 * 4096, STORE), -17);
    }

    private static void pmp(String what, int mode, long rules, long a0, long a1, long at, int kind, long want) {
        RiscMonitor x = machine(mode, false, 0x3b0, a0, 0x3b1, a1, 0x3a0, rules);
        CHECK.due(what, x.walk(0, 0, at, kind), want);
    }

    private static void protection() {
        CHECK.about("promise 15, protection");
        long page = RAM + 4096;
        pmp("no entry is on", 0, 0, 0, 0, page, LOAD, page);
        pmp("one is on, none has it", 0, 0x1f, RAM >>> 2, 0, page, LOAD, -15);
        pmp("M may", 3, 0x1f, RAM >>> 2, 0, page, LOAD, page);
        pmp("four bytes", 0, 0x1700, 0, page >>> 2, page + 3, LOAD, page + 3);
        pmp("no more", 0, 0x1700, 0, page >>> 2, page + 4, LOAD, -15);
        pmp("8 bytes", 0, 0x1f, page >>> 2, 0, page + 7, STORE, page + 7);
        pmp("no more", 0, 0x1f, page >>> 2, 0, page + 8, STORE, -17);
        pmp("4,096 bytes", 0, 0x1f, page >>> 2 | 511, 0, page + 4095, FETCH, page + 4095);
        pmp("all", 0, 0x1f, (1L << 54) - 1, 0, page, FETCH, page);
        pmp("from below up to", 0, 0x0f00, page >>> 2, (page >>> 2) + 1, page + 3, LOAD, page + 3);
        pmp("not ahead", 0, 0x0f00, page >>> 2, (page >>> 2) + 1, page - 1, LOAD, -15);
        pmp("from 0", 0, 0x0f, (page >>> 2) + 1, 0, page + 3, LOAD, page + 3);
        pmp("no R", 0, 0x1c, page >>> 2 | 511, 0, page, LOAD, -15);
        pmp("no W", 0, 0x1d, page >>> 2 | 511, 0, page, STORE, -17);
        pmp("no X", 0, 0x1b, page >>> 2 | 511, 0, page, FETCH, -11);
        pmp("the first entry", 0, 0x1f18, page >>> 2 | 511, (1L << 54) - 1, page, LOAD, -15);
        pmp("M without L", 3, 0x18, page >>> 2 | 511, 0, page, LOAD, page);
        pmp("M with L", 3, 0x98, page >>> 2 | 511, 0, page, LOAD, -15);
        pmp("an empty row", 0, 0x1f0f, 0, (1L << 54) - 1, page, LOAD, page);
        RiscMonitor x = Check.ran(8, "li t0,0x20000400", "csrw 0x3b0,t0", "li t0,0x17", "csrw 0x3a0,t0",
                "la a0,0x80001000", "ld a1,0(a0)");
        CHECK.due("not wholly in the entry, M too", x.control(0, 0, 0x342), 5);
        x = machine(1, false, 0x180, satp(), 0x3b0, (RAM + 5 * 4096) >>> 2 | 511, 0x3b1, (1L << 54) - 1, 0x3a0, 0x1f1c);
        tables(x, V | R | W | X | A | D);
        CHECK.due("a table that can't be read, fetch", x.walk(0, 0, 3 * 4096, FETCH), -11);
        CHECK.due("load", x.walk(0, 0, 3 * 4096, LOAD), -15);
        CHECK.due("store", x.walk(0, 0, 3 * 4096, STORE), -17);
    }

    private static void fault(String line, long cause, long value) {
        RiscMonitor x = Check.ran(3, "la a0,0x80001001", line);
        CHECK.due(line, x.control(0, 0, 0x342), cause);
        CHECK.due(line + ", its value", x.control(0, 0, 0x343), value);
    }

    private static void misaligned() {
        CHECK.about("promise 15, not aligned");
        fault("lh a1,0(a0)", 4, RAM + 4097);
        fault("lw a1,1(a0)", 4, RAM + 4098);
        fault("ld a1,3(a0)", 4, RAM + 4100);
        fault("sh a1,0(a0)", 6, RAM + 4097);
        fault("sd a1,3(a0)", 6, RAM + 4100);
        fault("lr.w a1,(a0)", 4, RAM + 4097);
        fault("sc.w a1,a2,(a0)", 6, RAM + 4097);
        fault("amoadd.d a1,a2,(a0)", 6, RAM + 4097);
        fault("hlv.h a1,(a0)", 4, RAM + 4097);
        fault("hsv.w a1,(a0)", 6, RAM + 4097);
        fault("lb a1,0(zero)", 5, 0);
        fault("sc.w a1,a2,(zero)", 7, 0);
        fault("lr.w a1,(zero)", 5, 0);
        fault("amoadd.w a1,a2,(zero)", 7, 0);
        RiscMonitor x = Check.ran(5, "li a0,0x10000000", "lb a1,5(a0)", "addi a0,a0,5", "amoadd.w a1,a2,(a0)", "nop");
        CHECK.due("a device's register", x.register(0, 0, 11), 32);
        x = Check.ran(3, "li a0,0x2000000", "lr.w a1,(a0)");
        CHECK.due("0x2f not of a device", x.control(0, 0, 0x342), 5);
        x = Check.ran(3, "li a0,0x10000000", "lh a1,0(a0)");
        CHECK.due("another size", x.control(0, 0, 0x342), 5);
    }

    private static void faultValues() {
        CHECK.about("promise 15, values of faults");
        RiscMonitor x = Check.house(1, 1, "la t0,0x80000ffe", "jr t0", ".align 11", ".zero 2046", ".half 3");
        x.run(0, 4);
        CHECK.due("the second half word", x.control(0, 0, 0x342), 1);
        CHECK.due("its place", x.control(0, 0, 0x343), RAM + 4096);
        CHECK.due("mepc", x.control(0, 0, 0x341), RAM + 4094);
        CHECK.due("traced bits", x.trace(0, 0, 2), 0);
        CHECK.due("traced cause", x.trace(0, 0, 3), 1);
        x = guest(1, true, 0, 0);
        entry(x, RAM + 13 * 4096, 0);
        x.run(0, 1);
        CHECK.due("w is at no page: a page fault", x.control(0, 0, 0x342), 12);
        CHECK.due("GVA, MPV", x.control(0, 0, 0x300) >>> 38 & 3, 3);
        CHECK.due("mtval2", x.control(0, 0, 0x34b), 0);
        x = guest(1, false, 0, 0);
        x.run(0, 1);
        CHECK.due("w is no guest's address", x.control(0, 0, 0x342), 20);
        CHECK.due("SECOND", x.control(0, 0, 0x34b), x.control(0, 0, 0x341) >>> 2);
        CHECK.due("value", x.control(0, 0, 0x343), x.control(0, 0, 0x341));
        x = guest(1, true, 0, 0);
        entry(x, RAM + 4 * 4096 + 8 * 2, leaf(5 * 4096, V));
        entry(x, RAM + 13 * 4096 + 8 * 5, 0);
        x.run(0, 1);
        CHECK.due("a table's entry", x.control(0, 0, 0x342), 20);
        CHECK.due("SECOND is the entry's", x.control(0, 0, 0x34b), 5 * 4096 >>> 2);
    }

    /** hlv, hsv in M, with both stages. */
    private static void guestLoads() {
        CHECK.about("promise 7, hlv and hsv");
        String[] lines = {"hlv.d a1,(a0)", "hlv.w a1,(a0)", "hlv.wu a1,(a0)", "hlv.h a1,(a0)", "hlv.hu a1,(a0)", "hlv.b a1,(a0)", "hlv.bu a1,(a0)",
            "hlvx.hu a1,(a0)", "hlvx.wu a1,(a0)"};
        long word = 0xf1f2f3f4f5f6f7f8L;
        long[] values = {word, (int) word, word & 0xffffffffL, (short) word, word & 65535, (byte) word, word & 255, word & 65535, word & 0xffffffffL};
        for (int i = 0; i < lines.length; i++) {
            RiscMonitor x = host(lines[i], 256, V | R | X | A, word);
            CHECK.due(lines[i], x.register(0, 0, 11), values[i]);
        }
        CHECK.due("in VU", host("hlv.d a1,(a0)", 0, V | R | A, word).control(0, 0, 0x342), 13);
        RiscMonitor x = host("hlvx.hu a1,(a0)", 256, V | R | A, word);
        CHECK.due("hlvx needs X", x.control(0, 0, 0x342), 13);
        CHECK.due("its value", x.control(0, 0, 0x343), 3 * 4096);
        CHECK.due("GVA, no MPV", x.control(0, 0, 0x300) >>> 38 & 3, 1);
        x = host("hlvx.hu a1,(a0)", 256, V | X | A, word);
        CHECK.due("and no R", x.register(0, 0, 11), word & 65535);
        x = host("hsv.h a0,(a0)", 256, V | R | W | A | D, word);
        CHECK.due("hsv.h", Check.dword(x, 0, RAM + 7 * 4096), word & ~65535L | 3 * 4096);
        x = host("hsv.d a0,(a0)", 256, V | R | W | A, word);
        CHECK.due("hsv as a store", x.control(0, 0, 0x342), 15);
    }

    private static RiscMonitor host(String line, long hstatus, long bits, long word) {
        RiscMonitor x = Check.house(1, 16, "la s0,d\n" + set(0x680, 0) + set(0x280, 0) + set(0x600, 0) + "li a0,12288", line, "wfi", ".align 3",
                "d: .dword 0x" + Long.toHexString(SV39 | (RAM >>> 12) + 8), ".dword 0x" + Long.toHexString(SV39 | 4), ".dword " + hstatus);
        guestTables(x, bits);
        entry(x, RAM + 7 * 4096, word);
        x.run(0, 14);
        return x;
    }
}
