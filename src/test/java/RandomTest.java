import java.util.Random;

/** Calls at random: none may throw but register() and control(), and replays must be alike. */
public final class RandomTest {
    private static final Check CHECK = new Check();
    private static final int ROUNDS = 600;
    /** Less than 512 by the calls at a round's end and those of one program. */
    private static final int MOST_CALLS = 400;
    private static final String[] LINES = {"add a0,a1,a2", "ld a0,8(s0)", "sd a0,0(s0)", "sw a1,16(s1)", "sd a1,0(s1)", "lw a2,4(s1)", "lr.w a0,(s0)",
        "sc.w a1,a2,(s0)", "amoadd.d a3,a0,(s0)", "csrrw a0,0x300,a1", "csrrs a0,0x304,a2", "csrw 0x180,a3", "csrw 0x280,a3", "csrw 0x680,a3",
        "csrrsi a1,0x344,2", "csrw 0x600,a1", "ecall", "ebreak", "mret", "sret", "wfi", "fence.i", "sfence.vma x0,x0", "hlv.d a0,(s0)",
        "hsv.b a0,(s0)", "j 0x80000040", "bnez a0,0x80000080", "jalr ra,0(s0)", ".half 0x8082,0x4501,0x952e", "li a1,0x100000", "mv s1,a1"};

    public static void main(String[] args) {
        for (int seed = 0; seed < ROUNDS; seed++) {
            CHECK.about("round " + seed);
            round(new Random(seed));
        }
        CHECK.end();
    }

    private static void round(Random random) {
        RiscMonitor x = new RiscMonitor();
        x.computer(1 + random.nextInt(4), 1 + random.nextInt(16));
        for (int calls = 1; calls < MOST_CALLS;) {
            calls += call(x, random, random.nextInt(5) - random.nextInt(2), place(random), random.nextInt(12) - 2);
        }
        for (int m = 0; m < 4; m++) {
            int again = x.replay(m);
            if (again >= 0 && x.state(m, 0) != 3) {
                CHECK.due("alike(" + m + ", " + again + ")", x.alike(m, again), 1);
            }
            x.drop(again);
        }
    }

    private static long place(Random random) {
        switch (random.nextInt(4)) {
            case 0: return random.nextLong();
            case 1: return 0x10000000L + random.nextInt(0x5000);
            default: return Check.RAM + random.nextInt(0x11000) - 256;
        }
    }

    private static String program(Random random) {
        int[] devices = {0x100000, 0x2000000, 0x2004000, 0xc000000, 0xc200000, 0x10000000, 0x10001000, 0x10002000, 0x10003000, 0x10004000};
        StringBuilder text = new StringBuilder("la s0,0x80000800\ncsrw 0x305,s0\nli s1," + devices[random.nextInt(devices.length)] + "\n");
        text.append("li a1,").append(random.nextInt(8192)).append("\ncsrw 0x300,a1\nla a3,0x80000200\ncsrw 0x341,a3\n");
        for (int i = 0; i < 30; i++) {
            text.append(LINES[random.nextInt(LINES.length)]).append('\n');
        }
        if (random.nextInt(8) == 0) {
            text.setCharAt(random.nextInt(text.length()), (char) (32 + random.nextInt(95)));
        }
        return text.toString();
    }

    /** One call, or a few: how many at most. */
    private static int call(RiscMonitor x, Random random, int m, long at, int n) {
        switch (random.nextInt(36)) {
            case 0: x.computer(n, 1 + random.nextInt(17)); break;
            case 1: if (n == 0) { x.drop(m); } break;
            case 2:
            case 3: {
                String text = program(random);
                Check.make(x, m, random.nextBoolean() ? Check.RAM : at, text);
                return text.length() / 8 + 2;
            }
            case 4: x.list(m, at, n); break;
            case 5:
            case 6:
            case 7: x.run(m, random.nextInt(200)); break;
            case 8: if (n == 1) { x.reset(m); } break;
            case 9: x.state(m, n); break;
            case 10: x.hart(m, n, random.nextInt(6)); break;
            case 11: thrown(() -> x.register(m, n, random.nextInt(34) - 1)); break;
            case 12: thrown(() -> x.control(m, n, random.nextInt(5000) - 5)); break;
            case 13: x.cell(m, at); break;
            case 14: x.poke(m, at, n); break;
            case 15: x.walk(m, n, at, random.nextInt(5) - 1); break;
            case 16: x.key(m, random.nextInt(300) - 20); break;
            case 17: x.serial(m, n); break;
            case 18: x.wire(m, n, random.nextBoolean()); break;
            case 19: x.time(m, at); break;
            case 20: x.sector(m, random.nextInt(36) - 2, random.nextInt(70) - 2); break;
            case 21: x.block(m, random.nextInt(80) - 2); break;
            case 22: x.picture(m); x.forget(n); break;
            case 23: x.restore(m, n); break;
            case 24: x.fork(n); break;
            case 25: x.changed(m, n); break;
            case 26: x.record(m, n != 0); break;
            case 27: x.back(m, random.nextInt(120) - 2); break;
            case 28: x.replay(m); break;
            case 29: x.alike(m, n); break;
            case 30: x.move(m); break;
            case 31: x.round(m, n); x.lose(m, random.nextInt(42)); break;
            case 32: x.finish(m, random.nextBoolean()); break;
            case 33: x.mark(m, random.nextInt(3), at); x.unmark(m, n); break;
            case 34: x.go(m); break;
            default: x.trace(m, n, random.nextInt(6) - 1); x.count(n); break;
        }
        return 2;
    }

    private static void thrown(Runnable call) {
        try {
            call.run();
        } catch (IllegalArgumentException e) {
            return;
        }
    }
}
