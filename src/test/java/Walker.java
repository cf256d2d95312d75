import java.util.HashMap;
import java.util.Map;

/** Term 5 written anew: where an access goes, or which fault it has, of tables that are told. */
final class Walker {
    static final int FETCH = 0;
    static final int LOAD = 1;
    static final int STORE = 2;

    /** A fault of a walk. */
    static final class Fault extends Exception {
        final int cause;
        final long second;

        Fault(int cause, long second) {
            this.cause = cause;
            this.second = second;
        }
    }

    /** The tables' entries by their places; all other bytes of tables are 0. */
    final Map<Long, Long> entries = new HashMap<>();
    long ramEnd = Check.RAM + 16 * 4096;
    long satp;
    long vsatp;
    long hgatp;
    long mstatus;
    long vsstatus;
    long rules;
    final long[] places = new long[8];

    private static boolean has(long number, int bit) {
        return (number >>> bit & 1) != 0;
    }

    /** The physical place of an access in a mode, with V or not; executes: hlvx. */
    long find(long at, int kind, int size, int mode, boolean v, boolean executes) throws Fault {
        long place = at;
        if (v) {
            if (vsatp >>> 60 == 8) {
                place = firstStage(at, kind, mode, true, executes);
            }
            place = secondStage(place, kind, kind, executes);
        } else if (mode != 3 && satp >>> 60 == 8) {
            place = firstStage(at, kind, mode, false, executes);
        }
        boolean inRam = inRam(place, size);
        boolean device = kind != FETCH && size == 1 && (place == 0x10000000L || place == 0x10000001L || place == 0x10000005L);
        if (!isAllowed(place, size, mode, kind) || !inRam && !device) {
            throw new Fault(new int[] {1, 5, 7}[kind], 0);
        }
        return place;
    }

    private boolean inRam(long place, int size) {
        return Long.compareUnsigned(place, Check.RAM) >= 0 && Long.compareUnsigned(place, ramEnd - size) <= 0;
    }

    private long entry(long place, int meant) throws Fault {
        if (!inRam(place, 8) || !isAllowed(place, 8, 1, LOAD)) {
            throw new Fault(new int[] {1, 5, 7}[meant], 0);
        }
        return entries.getOrDefault(place, 0L);
    }

    private long firstStage(long at, int kind, int mode, boolean v, boolean executes) throws Fault {
        Fault fault = new Fault(new int[] {12, 13, 15}[kind], 0);
        for (int bit = 39; bit < 64; bit++) {
            if (has(at, bit) != has(at, 38)) {
                throw fault;
            }
        }
        long own = v ? vsstatus : mstatus;
        boolean mxr = has(mstatus, 19) || has(own, 19);
        long table = ((v ? vsatp : satp) & (1L << 44) - 1) * 4096;
        for (int low = 30; low >= 12; low -= 9) {
            long place = table + (at >>> low & 511) * 8;
            long e = entry(v ? secondStage(place, LOAD, kind, false) : place, kind);
            check(e, low, fault);
            if (isLeaf(e)) {
                boolean user = has(e, 4);
                boolean mine = mode == 0 ? user : !user || kind != FETCH && has(own, 18);
                return leaf(e, at, low, kind, mine, mxr, executes, fault);
            }
            table = (e >>> 10 & (1L << 44) - 1) * 4096;
        }
        throw fault;
    }

    /** As: what is done there; meant: what the hart meant to do. */
    private long secondStage(long at, int as, int meant, boolean executes) throws Fault {
        if (hgatp >>> 60 != 8) {
            return at;
        }
        Fault fault = new Fault(new int[] {20, 21, 23}[meant], at);
        if (Long.compareUnsigned(at, 1L << 41) >= 0) {
            throw fault;
        }
        long table = (hgatp & (1L << 44) - 1) * 4096;
        for (int low = 30; low >= 12; low -= 9) {
            long index = low == 30 ? at >>> 30 : at >>> low & 511;
            long e = entry(table + index * 8, meant);
            check(e, low, fault);
            if (isLeaf(e)) {
                return leaf(e, at, low, as, has(e, 4), has(mstatus, 19), executes, fault);
            }
            table = (e >>> 10 & (1L << 44) - 1) * 4096;
        }
        throw fault;
    }

    private static boolean isLeaf(long e) {
        return has(e, 1) || has(e, 3);
    }

    private static void check(long e, int low, Fault fault) throws Fault {
        if (!has(e, 0) || has(e, 2) && !has(e, 1)) {
            throw fault;
        }
        for (int bit = 54; bit < 64; bit++) {
            if (has(e, bit)) {
                throw fault;
            }
        }
        if (!isLeaf(e) && (low == 12 || has(e, 4) || has(e, 6) || has(e, 7))) {
            throw fault;
        }
    }

    private static long leaf(long e, long at, int low, int kind, boolean mine, boolean mxr, boolean executes, Fault fault) throws Fault {
        boolean may = kind == FETCH ? has(e, 3) : kind == STORE ? has(e, 2) : executes ? has(e, 3) : has(e, 1) || mxr && has(e, 3);
        long place = (e >>> 10 & (1L << 44) - 1) * 4096;
        boolean whole = place % (1L << low) == 0;
        if (!may || !mine || !whole || !has(e, 6) || kind == STORE && !has(e, 7)) {
            throw fault;
        }
        return place + at % (1L << low) + (at % (1L << low) < 0 ? 1L << low : 0);
    }

    /** PROTECTION, byte by byte. */
    private boolean isAllowed(long at, int size, int mode, int kind) {
        boolean anyOn = false;
        for (int i = 0; i < 8; i++) {
            long rule = rules >>> 8 * i & 255;
            int shape = (int) (rule >>> 3 & 3);
            if (shape == 0) {
                continue;
            }
            anyOn = true;
            int inside = 0;
            for (int b = 0; b < size; b++) {
                inside += isInside(at + b, i, shape) ? 1 : 0;
            }
            if (inside > 0) {
                return inside == size && (mode == 3 && !has(rule, 7) || has(rule, kind == FETCH ? 2 : kind == LOAD ? 0 : 1));
            }
        }
        return mode == 3 || !anyOn;
    }

    private boolean isInside(long at, int i, int shape) {
        long from = places[i] * 4;
        long length = 4;
        if (shape == 1) {
            from = i == 0 ? 0 : places[i - 1] * 4;
            length = places[i] * 4 - from;
        } else if (shape == 3) {
            length = 8;
            for (int bit = 0; bit < 54 && has(places[i], bit); bit++) {
                length *= 2;
            }
            from = from / length * length;
        }
        return Long.compareUnsigned(at, from) >= 0 && length > 0 && Long.compareUnsigned(at, from + length) < 0;
    }
}
