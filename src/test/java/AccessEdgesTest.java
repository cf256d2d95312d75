import java.util.Random;

/** Term 5, promise 15: accesses by tables, protections and addresses at their edges, held against Walker. */
public final class AccessEdgesTest {
    private static final Check CHECK = new Check();
    private static final long RAM = Check.RAM;
    private static final long PAGE = 4096;
    private static final long SV39 = 8L << 60;
    private static final long ALL = 0xdf;
    private static final long TABLE = RAM + 4 * PAGE;
    private static final long G_TABLE = RAM + 8 * PAGE;
    private static final int HOUSES = 150;
    private static final int WALKS = 120;

    public static void main(String[] args) {
        for (int seed = 0; seed < HOUSES; seed++) {
            anyTables(new Random(seed), seed);
        }
        for (int seed = 0; seed < HOUSES; seed++) {
            guestAccesses(new Random(seed), seed);
        }
        for (int seed = 0; seed < HOUSES; seed++) {
            anyProtection(new Random(seed), seed);
        }
        protectedSizes();
        modesOfAccess();
        highAddresses();
        roots();
        hartsOfTheirOwn();
        behindHlvx();
        secondOfS();
        CHECK.end();
    }

    private static long pick(Random random, long... numbers) {
        return numbers[random.nextInt(numbers.length)];
    }

    private static long entry(long place, long bits) {
        return place / PAGE << 10 | bits;
    }

    /** Flags of a leaf: mostly all, now and then any. */
    private static long flags(Random random) {
        long most = ALL & ~(random.nextInt(3) == 0 ? 16 : 0);
        int kind = random.nextInt(8);
        return kind == 0 ? random.nextInt(1024) : kind < 5 ? most & ~(1L << random.nextInt(8)) : most;
    }

    private static long odd(Random random) {
        return random.nextInt(25) == 0 ? 1L << 54 + random.nextInt(10) : 0;
    }

    /** Tables of three levels: the next one each, or leaves that may be out of their place. */
    private static void fill(Random random, Walker walker, long[] tables, long[] roots) {
        for (int level = 0; level < 3; level++) {
            long[] indices = level == 0 ? roots : new long[] {0, 1, 2, 3, 511};
            for (long index : indices) {
                long next = level == 2 ? RAM + 7 * PAGE : tables[level + 1];
                boolean pointer = random.nextInt(4) != 0 && level < 2;
                long size = level == 0 ? 1L << 30 : level == 1 ? 1L << 21 : PAGE;
                long place = random.nextInt(6) == 0 ? RAM + (size >>> 1 + random.nextInt(9)) : RAM;
                long value = pointer ? entry(next, 1 | (random.nextInt(12) == 0 ? 1 << random.nextInt(10) : 0))
                        : entry(level == 2 ? RAM + (random.nextInt(12) == 0 ? 16 : 7) * PAGE : place, flags(random));
                walker.entries.put(tables[level] + 8 * index, value | odd(random));
            }
        }
    }

    /** Second stage: the guest's addresses are the physical ones, through tables that let most of it be. */
    private static void fillGuest(Random random, Walker walker) {
        long[] tables = {G_TABLE, RAM + 12 * PAGE, RAM + 13 * PAGE};
        boolean whole = random.nextInt(3) == 0;
        walker.entries.put(tables[0] + 16, whole ? entry(RAM, ALL) : entry(tables[1], 1));
        walker.entries.put(tables[1], random.nextInt(4) == 0 ? entry(RAM, ALL) : entry(tables[2], 1));
        for (int page = 0; page < 16; page++) {
            long bits = random.nextInt(6) == 0 ? flags(random) : ALL;
            walker.entries.put(tables[2] + 8 * page, entry(RAM + page * PAGE, bits) | (random.nextInt(40) == 0 ? 1L << 54 + random.nextInt(10) : 0));
        }
        for (long index : new long[] {0, 1, 3, 511, 512, 2046, 2047}) {
            walker.entries.put(tables[0] + 8 * index, random.nextBoolean() ? entry(RAM, flags(random)) : entry(tables[1], 1));
        }
    }

    private static String data(Walker walker, long from, long to) {
        StringBuilder text = new StringBuilder();
        walker.entries.entrySet().stream().filter(e -> e.getKey() >= from
                && e.getKey() < to).sorted(java.util.Map.Entry.comparingByKey()).forEach(e -> {
            text.append(e.getKey()).append(' ').append("0x").append(Long.toHexString(e.getValue())).append('\n');
        });
        return text.toString();
    }

    /** Puts the entries into RAM, a few assemble() calls of many bytes each. */
    private static void put(RiscMonitor x, Walker walker) {
        String[] rows = data(walker, 0, Long.MAX_VALUE).split("\n");
        long place = Long.parseLong(rows[0].split(" ")[0]);
        long first = place;
        StringBuilder text = new StringBuilder();
        for (String row : rows) {
            long at = Long.parseLong(row.split(" ")[0]);
            for (long gap = at - place; gap > 0; gap -= Math.min(gap, PAGE)) {
                text.append(".zero ").append(Math.min(gap, PAGE)).append('\n');
            }
            text.append(".dword ").append(row.split(" ")[1]).append('\n');
            place = at + 8;
        }
        int made = Check.make(x, 0, first, text.toString());
        if (made != place - first) {
            throw new IllegalStateException("the tables are not made: " + made);
        }
    }

    private static long address(Random random) {
        long level2 = pick(random, 0, 1, 2, 3, 511);
        long level1 = pick(random, 0, 1, 2, 3, 511);
        long level0 = pick(random, 0, 1, 2, 3, 511);
        long at = level2 << 30 | level1 << 21 | level0 << 12 | pick(random, 0, 8, 4088, 4095);
        at = (at & 1L << 38) != 0 ? at | -1L << 39 : at;
        return random.nextInt(15) == 0 ? at ^ 1L << 38 + random.nextInt(26) : at;
    }

    private static long guestAddress(Random random) {
        long at = random.nextInt(3) == 0 ? RAM + random.nextInt(17) * PAGE + 5 : pick(random, 0, 1, 2, 3, 511, 512, 2046,
                2047) << 30 | pick(random, 0, 1, 511) << 21 | pick(random, 0, 7, 511) << 12;
        return random.nextInt(10) == 0 ? at ^ 1L << 39 + random.nextInt(25) : at;
    }

    private static void anyTables(Random random, int seed) {
        Walker walker = new Walker();
        int mode = random.nextInt(2);
        boolean v = random.nextBoolean();
        boolean paged = random.nextInt(5) != 0;
        walker.mstatus = (long) random.nextInt(4) << 18;
        walker.vsstatus = (long) random.nextInt(4) << 18;
        walker.satp = paged ? SV39 | TABLE >>> 12 : TABLE >>> 12;
        walker.vsatp = walker.satp;
        walker.hgatp = random.nextInt(4) != 0 ? SV39 | G_TABLE >>> 12 : G_TABLE >>> 12;
        fill(random, walker, new long[] {TABLE, RAM + 5 * PAGE, RAM + 6 * PAGE}, new long[] {0, 1, 2, 3, 511});
        fillGuest(random, walker);
        RiscMonitor x = Stage.in(mode, v, "nop", 0x180, walker.satp, 0x280, walker.vsatp, 0x680, walker.hgatp, 0x300, walker.mstatus,
                0x200, walker.vsstatus);
        put(x, walker);
        CHECK.about("term 5: tables " + seed + ", mode " + mode + (v ? " with V" : ""));
        for (int i = 0; i < WALKS; i++) {
            long at = v && !paged ? guestAddress(random) : address(random);
            int kind = random.nextInt(3);
            long want;
            try {
                want = walker.find(at, kind, 1, mode, v, false);
            } catch (Walker.Fault fault) {
                want = -10 - fault.cause;
            }
            CHECK.due("walk of " + Long.toHexString(at) + ", kind " + kind, x.walk(0, 0, at, kind), want);
        }
    }

    /** hlv, hlvx and hsv in M: a loop takes addresses from a row; M's handler goes on with it. */
    private static void guestAccesses(Random random, int seed) {
        Walker walker = new Walker();
        boolean paged = random.nextInt(5) != 0;
        int mode = random.nextInt(2);
        String name = new String[] {"hlv.b", "hlv.h", "hlv.w", "hlv.d", "hlv.bu", "hlv.hu", "hlv.wu", "hlvx.hu", "hlvx.wu", "hsv.b",
                "hsv.h", "hsv.w", "hsv.d"}[seed % 13];
        int size = new int[] {1, 2, 4, 8, 1, 2, 4, 2, 4, 1, 2, 4, 8}[seed % 13];
        boolean loads = !name.startsWith("hsv");
        walker.mstatus = (long) random.nextInt(4) << 18;
        walker.vsstatus = (long) random.nextInt(4) << 18;
        walker.vsatp = paged ? SV39 | TABLE >>> 12 : 0;
        walker.hgatp = SV39 | G_TABLE >>> 12;
        fill(random, walker, new long[] {TABLE, RAM + 5 * PAGE, RAM + 6 * PAGE}, new long[] {0, 1, 2, 3, 511});
        fillGuest(random, walker);
        Walker first = new Walker();
        first.entries.putAll(walker.entries);
        long[] row = new long[30];
        Walker.Fault[] faults = new Walker.Fault[row.length];
        StringBuilder text = new StringBuilder("la s2,q\nl: ld s1,0(s2)\naddi s2,s2,8\n" + name + " a0,(s1)\nj l\n.zero 1512\nj l\n.align 3\nq:");
        for (int i = 0; i < row.length; i++) {
            row[i] = paged ? address(random) : guestAddress(random);
            row[i] = random.nextInt(4) == 0 ? row[i] : row[i] & -8;
            // Stores into the lines' own page would end the loop.
            row[i] = !loads && meets(walker, row[i], size, mode) ? -8 : row[i];
            faults[i] = guestFault(walker, row[i], size, mode, name);
            text.append("\n.dword 0x").append(Long.toHexString(row[i]));
        }
        RiscMonitor x = Stage.in(3, false, text.toString(), 0x280, walker.vsatp, 0x680, walker.hgatp, 0x300, walker.mstatus, 0x200,
                walker.vsstatus, 0x600, mode << 8);
        put(x, first);
        CHECK.about("term 5: " + name + " " + seed + ", SPVP " + mode);
        x.run(0, 2);
        for (int i = 0; i < row.length; i++) {
            long at = row[i];
            long cause = faults[i] == null ? 0 : faults[i].cause;
            long second = faults[i] == null ? 0 : faults[i].second;
            x.run(0, 3);
            CHECK.due("cause at " + Long.toHexString(at), Stage.cause(x), cause);
            if (cause != 0) {
                CHECK.due("value", x.control(0, 0, 0x343), at);
                CHECK.due("SECOND", x.control(0, 0, 0x34b), second >>> 2);
                CHECK.due("GVA, MPP", x.control(0, 0, 0x300) & (1L << 38 | 3L << 11), 1L << 38 | 3L << 11);
            }
            x.run(0, 1);
        }
    }

    private static boolean meets(Walker walker, long at, int size, int mode) {
        try {
            return walker.find(at & -size, Walker.STORE, size, mode, true, false) < RAM + PAGE;
        } catch (Walker.Fault fault) {
            return false;
        }
    }

    /** The fault of an access; a store of 0 that has none is done to the tables, too. */
    private static Walker.Fault guestFault(Walker walker, long at, int size, int mode, String name) {
        boolean loads = !name.startsWith("hsv");
        if (at % size != 0) {
            return new Walker.Fault(loads ? 4 : 6, 0);
        }
        try {
            long place = walker.find(at, loads ? Walker.LOAD : Walker.STORE, size, mode, true, name.startsWith("hlvx"));
            long mask = size == 8 ? 0 : ~((1L << 8 * size) - 1 << 8 * (place & 7));
            if (!loads) {
                walker.entries.computeIfPresent(place & -8, (key, was) -> was & mask);
            }
            return null;
        } catch (Walker.Fault fault) {
            return fault;
        }
    }

    /** Eight entries of protection at random, few bytes and pages around page 2's beginning. */
    private static void anyProtection(Random random, int seed) {
        Walker walker = new Walker();
        int mode = new int[] {0, 1, 3}[seed % 3];
        long center = RAM + 2 * PAGE;
        long[] pairs = new long[18];
        for (int i = 0; i < 8; i++) {
            int shape = random.nextInt(4);
            long place = center / 4 + random.nextInt(9) - 4;
            int ones = (int) pick(random, 0, 1, 2, 8, 9, 10, 53);
            walker.places[i] = shape == 3 ? place & -(1L << ones) | (1L << ones) - 1 : place;
            walker.places[i] &= (1L << 54) - 1;
            long rights = pick(random, 0, 1, 3, 4, 5, 7);
            boolean locks = mode == 3 && shape != 3 && random.nextBoolean();
            walker.rules |= (random.nextInt(3) == 0 ? 0 : (shape << 3 | rights | (locks ? 128 : 0))) << 8 * i;
            pairs[2 * i] = 0x3b0 + i;
            pairs[2 * i + 1] = walker.places[i];
        }
        // In M an entry with L that has the stage's own lines would stop it.
        walker.rules = mode == 3 && (walker.rules & 0x98) == 0x88 ? walker.rules & ~0x98L : walker.rules;
        pairs[16] = 0x3a0;
        pairs[17] = walker.rules;
        RiscMonitor x = Stage.in(mode, false, "nop", pairs);
        CHECK.about("term 5: protection " + seed + ", mode " + mode);
        for (int i = 0; i < WALKS; i++) {
            long at = center + random.nextInt(48) - 24 + (random.nextInt(4) == 0 ? random.nextInt(3) * PAGE / 2 - PAGE / 2 : 0);
            int kind = random.nextInt(3);
            long want;
            try {
                want = walker.find(at, kind, 1, mode, false, false);
            } catch (Walker.Fault fault) {
                want = -10 - fault.cause;
            }
            CHECK.due("walk of " + Long.toHexString(at) + ", kind " + kind + ", rules " + Long.toHexString(walker.rules), x.walk(0, 0, at,
                    kind), want);
        }
    }

    /** An access of n bytes must be wholly in the first entry that has a byte of it. */
    private static void protectedSizes() {
        CHECK.about("term 5: all of it must be in it");
        long at = RAM + 2 * PAGE;
        String[] lines = {"lb", "lh", "lw", "ld", "sb", "sh", "sw", "sd"};
        for (int shape = 1; shape <= 3; shape++) {
            for (int rights : new int[] {0, 1, 3}) {
                for (int i = 0; i < lines.length; i++) {
                    for (int from = -8; from <= 16; from += 1 << (i & 3)) {
                        Walker walker = new Walker();
                        walker.rules = shape << 11 | rights << 8 | 0x1b0000L;
                        walker.places[0] = at / 4;
                        walker.places[1] = shape == 1 ? at / 4 + 1 : at / 4;
                        walker.places[2] = (1L << 54) - 1;
                        long cause = 0;
                        try {
                            walker.find(at + from, i < 4 ? Walker.LOAD : Walker.STORE, 1 << (i & 3), 0, false, false);
                        } catch (Walker.Fault fault) {
                            cause = fault.cause;
                        }
                        RiscMonitor x = Stage.in(3, false, "la s1," + at + "\n" + lines[i] + " a0," + from + "(s1)", 0x3b0,
                                walker.places[0], 0x3b1, walker.places[1], 0x3b2, walker.places[2], 0x3a0, walker.rules, 0x300, 1 << 17);
                        x.run(0, 3);
                        CHECK.due(lines[i] + " at " + from + ", A " + shape + ", rights " + rights, Stage.cause(x), cause);
                    }
                }
            }
        }
        // From a place up to the same place there is no byte, also in the midst of an access.
        for (int shift = 0; shift <= 2; shift++) {
            long place = at / 4 + shift;
            RiscMonitor x = Stage.in(3, false, "la s1," + at + "\nld a0,0(s1)", 0x3b0, place, 0x3b1, place, 0x3b2, (1L << 54) - 1, 0x3a0,
                    0x1b0800, 0x300, 1 << 17);
            x.run(0, 3);
            CHECK.due("an empty row at " + 4 * shift, Stage.cause(x), 0);
        }
        fetches(at);
    }

    private static void fetches(long at) {
        CHECK.about("term 5: fetch, half word by half word");
        // Page 1's last half word may be fetched, what comes behind it may not.
        String code = ".zero 2038\n.half 1\n.word 0x13\n.word 0x13";
        for (int rights : new int[] {0, 4, 1}) {
            RiscMonitor x = Stage.in(0, false, "j 0x80000ffa\n" + code, 0x3b0, RAM / 4 | 511, 0x3b1, RAM / 4 | 1023, 0x3a0, rights << 8 | 0x181f);
            x.run(0, 2);
            CHECK.due("16 bits ahead", x.hart(0, 0, 1), RAM + 0xffc);
            x.run(0, 2);
            CHECK.due("rights " + rights, Stage.cause(x), rights == 4 ? 0 : 1);
            CHECK.due("where", x.control(0, 0, 0x343), rights == 4 ? 0 : RAM + PAGE);
        }
        RiscMonitor x = Stage.in(0, false, "j 0x80000ffe\n.zero 2042\n.word 0x13\n.word 0x13", 0x3b0, RAM / 4 | 511, 0x3b1, RAM / 4 | 1023,
                0x3a0, 0x1f1f);
        x.run(0, 2);
        CHECK.due("a word over two entries", x.hart(0, 0, 1), RAM + PAGE + 2);
        x = Stage.in(0, false, "j 0x80000ffe\n.zero 2042\n.word 0x13\n.word 0x13", 0x3b0, RAM / 4 | 511, 0x3a0, 0x1f);
        x.run(0, 2);
        CHECK.due("the second half fails", Stage.cause(x), 1);
        CHECK.due("of the half word that failed", x.control(0, 0, 0x343), RAM + PAGE);
        CHECK.due("mepc", x.control(0, 0, 0x341), RAM + PAGE - 2);
        CHECK.due("its bits are 0", x.trace(0, 0, 2), 0);
    }

    private static void modesOfAccess() {
        CHECK.about("term 5: its MODE");
        long leaf = entry(RAM, 0xcf);
        long user = entry(RAM, 0xdf);
        for (int mpp : new int[] {0, 1, 3}) {
            for (int set = 0; set < 4; set++) {
                boolean mprv = (set & 1) != 0;
                boolean mpv = (set & 2) != 0;
                // satp's entry 0 is of S, vsatp's of U, both are RAM from its beginning on; hgatp is off.
                RiscMonitor x = Stage.in(3, false, "nop", 0x180, SV39 | TABLE >>> 12, 0x280, SV39 | TABLE + PAGE >>> 12, 0x300,
                        (long) mpp << 11 | (mprv ? 1 << 17 : 0) | (mpv ? 1L << 39 : 0));
                Walker walker = new Walker();
                walker.entries.put(TABLE, leaf);
                walker.entries.put(TABLE + PAGE, user);
                put(x, walker);
                boolean physical = !mprv || mpp == 3;
                boolean may = mpv ? mpp == 0 : mpp == 1;
                CHECK.due("load, MPP " + mpp + ", MPRV, MPV " + set, x.walk(0, 0, 64, 1), physical ? -15 : may ? RAM + 64 : -23);
                CHECK.due("store", x.walk(0, 0, 64, 2), physical ? -17 : may ? RAM + 64 : -25);
                CHECK.due("fetch", x.walk(0, 0, 64, 0), -11);
                CHECK.due("RAM itself, fetch", x.walk(0, 0, RAM + 64, 0), RAM + 64);
                CHECK.due("RAM itself, load", x.walk(0, 0, RAM + 64, 1), physical ? RAM + 64 : -23);
            }
        }
    }

    private static void highAddresses() {
        CHECK.about("term 5: ends of addresses");
        Walker walker = new Walker();
        walker.entries.put(TABLE + 8 * 255, entry(RAM, 0xcf));
        walker.entries.put(TABLE + 8 * 256, entry(RAM, 0xcf));
        walker.entries.put(TABLE, entry(((1L << 44) - 1) * PAGE & ~((1L << 30) - 1), 0xcf));
        walker.entries.put(TABLE + 8, entry(((1L << 44) - 1) * PAGE, 1));
        RiscMonitor x = Stage.in(1, false, "nop", 0x180, SV39 | TABLE >>> 12);
        put(x, walker);
        CHECK.due("the last below", x.walk(0, 0, (1L << 38) - (1L << 30), 1), RAM);
        CHECK.due("bit 38 alone", x.walk(0, 0, 1L << 38, 1), -23);
        CHECK.due("the first above", x.walk(0, 0, -1L << 38, 1), RAM);
        CHECK.due("one less", x.walk(0, 0, (-1L << 38) - 1, 1), -23);
        CHECK.due("a physical place far away", x.walk(0, 0, 0, 1), -15);
        CHECK.due("a table far away", x.walk(0, 0, 1L << 30, 2), -17);
        for (int bit = 39; bit < 64; bit++) {
            CHECK.due("bit " + bit, x.walk(0, 0, 1L << bit | 255L << 30, 0), -22);
            CHECK.due("bit " + bit + " unset", x.walk(0, 0, -1L << 38 & ~(1L << bit), 2), -25);
        }
        CHECK.due("the last of the page", x.walk(0, 0, (1L << 38) - (1L << 30) + 16 * PAGE - 1, 1), RAM + 16 * PAGE - 1);
        CHECK.due("behind RAM", x.walk(0, 0, (1L << 38) - (1L << 30) + 16 * PAGE, 1), -15);
        x = Stage.in(0, false, "nop");
        for (long at : new long[] {-1, Long.MIN_VALUE, Long.MAX_VALUE, RAM | 1L << 63, RAM | 1L << 56}) {
            CHECK.due("physical " + Long.toHexString(at), x.walk(0, 0, at, 1), -15);
        }
    }

    /** ASID and VMID don't matter; all 44 bits of PPN do. */
    private static void roots() {
        CHECK.about("term 4: ASID 44..59, PPN 0..43");
        for (int bit = 24; bit < 60; bit++) {
            Walker walker = new Walker();
            walker.entries.put(TABLE, entry(RAM, 0xdf));
            walker.entries.put(TABLE + 16, entry(RAM, 0xdf));
            walker.entries.put(G_TABLE + 16, entry(RAM, 0xdf));
            RiscMonitor x = Stage.in(0, false, "nop", 0x180, SV39 | TABLE >>> 12 | 1L << bit);
            put(x, walker);
            CHECK.due("satp, bit " + bit, x.walk(0, 0, 8, 1), bit < 44 ? -15 : RAM + 8);
            x = Stage.in(0, true, "nop", 0x280, SV39 | TABLE >>> 12 | 1L << bit);
            put(x, walker);
            CHECK.due("vsatp, bit " + bit, x.walk(0, 0, 8, 1), bit < 44 ? -15 : RAM + 8);
            x = Stage.in(0, true, "nop", 0x680, SV39 | G_TABLE >>> 12 | 1L << bit);
            put(x, walker);
            CHECK.due("hgatp, bit " + bit, x.walk(0, 0, RAM + 8, 1), bit < 44 ? -15 : RAM + 8);
        }
        for (int bit = 30; bit < 56; bit++) {
            Walker walker = new Walker();
            walker.entries.put(TABLE, entry(RAM ^ 1L << bit, 0xdf));
            RiscMonitor x = Stage.in(0, false, "nop", 0x180, SV39 | TABLE >>> 12);
            put(x, walker);
            CHECK.due("a leaf's bit " + bit, x.walk(0, 0, 8, 1), -15);
        }
    }

    /** Hart 1 goes to S with a table and a protection of its own; hart 0 stays in M. */
    private static void hartsOfTheirOwn() {
        CHECK.about("term 5: each hart by its own registers");
        RiscMonitor x = Check.house(2, 16, "csrr t0,0xf14", "la s0,d", "bnez t0,b", "a: ld a0,0(s0)", "j a", "b: ld t1,0(s0)",
                "csrw 0x180,t1", "li t1,1", "slli t1,t1,11", "csrw 0x300,t1", "la t1,0x40000000", "addi t1,t1,96",
                "csrw 0x341,t1", "mret", ".zero 32", "hlv.b a0,(zero)", "ld a1,8(t2)", "j 0x80000060", ".align 3",
                        "d: .dword 0x" + Long.toHexString(SV39 | TABLE >>> 12));
        Walker walker = new Walker();
        walker.entries.put(TABLE + 8, entry(RAM, 0xcf));
        put(x, walker);
        x.run(0, 2 * 14);
        CHECK.due("hart 1 in S", x.hart(0, 1, 0), 1);
        CHECK.due("hart 0 in M", x.hart(0, 0, 0), 3);
        CHECK.due("hart 1's place", x.walk(0, 1, 0x40000008L, 1), RAM + 8);
        CHECK.due("hart 0's", x.walk(0, 0, 0x40000008L, 1), -15);
        CHECK.due("hart 1: no table's entry", x.walk(0, 1, RAM + 8, 1), -23);
        CHECK.due("hart 0: physical", x.walk(0, 0, RAM + 8, 1), RAM + 8);
        long traps = x.state(0, 7);
        x.run(0, 2);
        CHECK.due("hart 0 goes on", x.hart(0, 0, 0), 3);
        CHECK.due("hart 1 fetches by its own table: its hlv of 0", x.control(0, 1, 0x342), 5);
        CHECK.due("where it was", x.control(0, 1, 0x341), 0x40000060L);
        CHECK.due("traps of hart 1 alone", x.control(0, 0, 0x342), 0);
        CHECK.due("there are some", x.state(0, 7) > traps ? 1 : 0, 1);
    }

    private static void behindHlvx() {
        CHECK.about("term 5: hlvx: X, of its own access alone");
        long readable = entry(RAM, 0x43);
        RiscMonitor x = Stage.in(3, false, "la s1,0x80000000\nhlvx.hu a0,(s1)\nnop", 0x180, SV39 | TABLE >>> 12, 0x300, 1 << 17 | 1 << 11);
        Walker walker = new Walker();
        walker.entries.put(TABLE, readable);
        put(x, walker);
        CHECK.due("a page with R alone", x.walk(0, 0, 8, 1), RAM + 8);
        x.run(0, 3);
        CHECK.due("hlvx was done", x.hart(0, 0, 1), Stage.CODE + 12);
        CHECK.due("a load behind it", x.walk(0, 0, 8, 1), RAM + 8);
        CHECK.due("no fetch", x.walk(0, 0, 8, 0), -11);
    }

    private static void secondOfS() {
        CHECK.about("term 4: htval");
        for (long at : new long[] {0x1234560, 0x7ffffffff8L, 8, -8, Long.MIN_VALUE + 8}) {
            RiscMonitor x = Stage.in(1, false, "la s1,q\nld s1,0(s1)\nhlv.d a0,(s1)\n.align 3\nq: .dword 0x" + Long.toHexString(at), 0x680,
                    SV39 | G_TABLE >>> 12, 0x302, -1);
            x.run(0, 4);
            CHECK.due("to S", x.hart(0, 0, 1), Stage.S_HANDLER);
            CHECK.due("scause", x.control(0, 0, 0x142), 21);
            CHECK.due("stval", x.control(0, 0, 0x143), at);
            CHECK.due("htval", x.control(0, 0, 0x643), at >>> 2);
            CHECK.due("hstatus' GVA, no SPV", x.control(0, 0, 0x600) & 0xc0, 0x40);
            CHECK.due("mtval2", x.control(0, 0, 0x34b), 0);
            x = Stage.in(1, false, "la s1,q\nld s1,0(s1)\nhsv.d a0,(s1)\n.align 3\nq: .dword 0x" + Long.toHexString(at), 0x680, SV39 | G_TABLE >>> 12);
            x.run(0, 4);
            CHECK.due("mcause", Stage.cause(x), 23);
            CHECK.due("mtval2", x.control(0, 0, 0x34b), at >>> 2);
            CHECK.due("htval", x.control(0, 0, 0x643), 0);
        }
    }
}
