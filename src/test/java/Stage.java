/** Brings hart 0 of a new computer of 16 pages into a mode, with control registers as told, at lines of its own. */
final class Stage {
    static final long CODE = Check.RAM + 0x800;
    static final long HANDLER = Check.RAM + 0xe00;
    static final long S_HANDLER = Check.RAM + 0xe40;
    static final long VS_HANDLER = Check.RAM + 0xe80;

    private Stage() {
    }

    /** Pairs are control registers' numbers and values; mstatus' comes last, with MPP and MPV of the mode (but in M). */
    static RiscMonitor in(int mode, boolean guest, String lines, long... pairs) {
        StringBuilder text = new StringBuilder("la s0,d\n");
        StringBuilder data = new StringBuilder();
        long status = mode == 3 ? 0 : (long) mode << 11 | (guest ? 1L << 39 : 0);
        int steps = 3;
        steps += set(text, data, 0x305, HANDLER) + set(text, data, 0x105, S_HANDLER) + set(text, data, 0x205, VS_HANDLER) + set(text, data,
                0x341, CODE);
        for (int i = 0; i < pairs.length; i += 2) {
            if (pairs[i] == 0x300) {
                status |= pairs[i + 1];
            } else {
                steps += set(text, data, pairs[i], pairs[i + 1]);
            }
        }
        steps += set(text, data, 0x300, status);
        text.append(mode == 3 ? "j 0x80000800" : "mret").append("\n.align 3\nd:\n").append(data).append(".align 11\n").append(lines);
        RiscMonitor x = Check.house(1, 16, text.toString());
        x.run(0, steps);
        if (x.hart(0, 0, 1) != CODE || x.hart(0, 0, 0) != mode + (guest ? 4 : 0)) {
            throw new IllegalStateException("the stage is not reached: " + lines);
        }
        return x;
    }

    private static int set(StringBuilder text, StringBuilder data, long number, long value) {
        text.append("ld t0,0(s0)\naddi s0,s0,8\ncsrw ").append(number).append(",t0\n");
        data.append(".dword 0x").append(Long.toHexString(value)).append('\n');
        return 3;
    }

    /** As in(), and so many steps of its lines. */
    static RiscMonitor ran(int steps, int mode, boolean guest, String lines, long... pairs) {
        RiscMonitor x = in(mode, guest, lines, pairs);
        x.run(0, steps);
        return x;
    }

    /** The cause of the trap to M that hart 0 has just taken; 0 when it is elsewhere. */
    static long cause(RiscMonitor x) {
        return x.hart(0, 0, 1) == HANDLER ? x.control(0, 0, 0x342) : 0;
    }
}
