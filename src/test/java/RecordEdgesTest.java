/** Term 10, promises 27 to 29: inputs with their steps, going back to each step, and what ends a record. */
public final class RecordEdgesTest {
    private static final Check CHECK = new Check();
    private static final long RAM = Check.RAM;
    /** Adds keys, MTIME, a byte of RAM and the pending sources to a1. */
    private static final String[] LISTENS = {"la s0,0x10000000", "la s1,0xc001000", "la s2,0x80001000", "l: lbu a0,0(s0)", "add a1,a1,a0",
            "csrr a0,0xc01", "add a1,a1,a0", "lw a0,0(s1)", "add a1,a1,a0", "lbu a0,0(s2)", "add a1,a1,a0",
        "sb a1,0(s0)", "j l"};

    public static void main(String[] args) {
        forgotten();
        room();
        backToEach();
        backFromOff();
        countsStay();
        replayOfEach();
        replayOfOff();
        lengths();
        ends();
        endsNot();
        anew();
        CHECK.end();
    }

    /** How many inputs more a record takes: at most 200. */
    private static int room(RiscMonitor x) {
        for (int n = 0; n <= 200; n++) {
            if (x.time(0, 5) < 0) {
                return n;
            }
        }
        return 201;
    }

    /** A poke ahead of the first step and one behind each of three steps. */
    private static RiscMonitor pokes() {
        RiscMonitor x = Check.house(1, 2, "j 0x80000000");
        x.record(0, true);
        for (int i = 0; i < 4; i++) {
            x.poke(0, RAM + 4096 + i, i + 1);
            if (i < 3) {
                x.run(0, 1);
            }
        }
        return x;
    }

    private static void forgotten() {
        CHECK.about("term 10: inputs behind are forgotten");
        for (int n = 0; n <= 3; n++) {
            RiscMonitor x = pokes();
            CHECK.due("back " + n, x.back(0, n), 1);
            for (int i = 0; i < 4; i++) {
                boolean stays = n == 0 || i < 3 - n;
                CHECK.due("back " + n + ": poke " + i, x.cell(0, RAM + 4096 + i), stays ? i + 1 : 0);
            }
            CHECK.due("MTIME", x.control(0, 0, 0xc01), 3 - n);
            CHECK.due("steps left", x.back(0, 4 - n), -4);
            CHECK.due("a replay", x.replay(0), 1);
            CHECK.due("is alike", x.alike(0, 1), 1);
            CHECK.due("room for inputs", room(x), 200 - (n == 0 ? 4 : 3 - n));
        }
        RiscMonitor x = pokes();
        x.back(0, 1);
        x.back(0, 1);
        x.back(0, 1);
        CHECK.due("one by one: all are forgotten", x.cell(0, RAM + 4096), 0);
        CHECK.due("room", room(x), 200);
        x = Check.house(1, 2, "j 0x80000000");
        x.record(0, true);
        x.poke(0, RAM + 4096, 1);
        CHECK.due("of no steps", x.back(0, 0), 1);
        CHECK.due("as it is", x.cell(0, RAM + 4096), 1);
        CHECK.due("room", room(x), 199);
    }

    private static void room() {
        CHECK.about("term 10: at most 200 inputs");
        RiscMonitor x = Check.house(1, 2, "j 0x80000000");
        x.record(0, true);
        CHECK.due("room", room(x), 200);
        x.run(0, 1);
        CHECK.due("still full", x.poke(0, RAM + 4096, 1), -1);
        CHECK.due("anew", x.record(0, true), 1);
        CHECK.due("one", x.poke(0, RAM + 4096, 1), 1);
        CHECK.due("room", room(x), 199);
        x = Check.house(1, 2, "j 0x80000000");
        CHECK.due("without a record there is always room", room(x), 201);
        x.record(0, true);
        CHECK.due("none of these counts", room(x), 200);
    }

    private static RiscMonitor listening() {
        RiscMonitor x = Check.house(2, 2, LISTENS);
        x.run(0, 11);
        x.record(0, true);
        return x;
    }

    /** Inputs of each kind come; then all that was is met again, from the last step to the first. */
    private static void backToEach() {
        CHECK.about("promise 28: as it was just behind the step");
        RiscMonitor x = listening();
        long[][] seen = new long[41][3];
        for (int step = 0; step <= 40; step++) {
            seen[step] = new long[] {x.register(0, 0, 11), x.register(0, 1, 11), x.control(0, 0, 0xc01)};
            input(x, step);
            if (step < 40) {
                x.run(0, 1);
            }
        }
        for (int step = 39; step >= 0; step--) {
            CHECK.due("back to " + step, x.back(0, 1), 1);
            CHECK.due("hart 0", x.register(0, 0, 11), seen[step][0]);
            CHECK.due("hart 1", x.register(0, 1, 11), seen[step][1]);
            CHECK.due("MTIME", x.control(0, 0, 0xc01), seen[step][2]);
            CHECK.due("turn", x.state(0, 4), (step + 11) % 2);
        }
        CHECK.due("no more", x.back(0, 1), -4);
        CHECK.due("it records still", x.count(4), 1);
    }

    private static void input(RiscMonitor x, int step) {
        switch (step % 6) {
            case 1: x.key(0, step * 6); break;
            case 2: x.wire(0, 4 + step % 4, true); break;
            case 3: x.poke(0, RAM + 4096, step * 3); break;
            case 4: x.time(0, step * 1000L); break;
            case 5: x.wire(0, 4 + step % 3, false); break;
            default: break;
        }
    }

    private static void backFromOff() {
        CHECK.about("promise 28: RUNNING or OFF");
        RiscMonitor x = Check.house(1, 1, "la s0,0x100000", "li a0,0x73333", "sw a0,0(s0)");
        x.record(0, true);
        CHECK.due("OFF", x.run(0, 10), 5);
        CHECK.due("back 0", x.back(0, 0), 1);
        CHECK.due("OFF still", x.state(0, 0), 1);
        CHECK.due("CODE", x.state(0, 1), 7);
        CHECK.due("too many", x.back(0, 6), -4);
        CHECK.due("back 1", x.back(0, 1), 1);
        CHECK.due("RUNNING", x.state(0, 0), 0);
        CHECK.due("CODE", x.state(0, 1), 0);
        CHECK.due("OFF again", x.run(0, 10), 1);
        CHECK.due("back all", x.back(0, 5), 1);
        CHECK.due("pc", x.hart(0, 0, 1), RAM);
        CHECK.due("none is left", x.back(0, 1), -4);
        x.run(0, 5);
        x.record(0, true);
        CHECK.due("of one that is OFF", x.back(0, 0), 1);
        CHECK.due("OFF", x.state(0, 0), 1);
        CHECK.due("no steps", x.back(0, 1), -4);
    }

    private static void countsStay() {
        CHECK.about("term 10: what is done again changes no count, no trace");
        RiscMonitor x = Check.house(2, 2, "nop", "ecall", "nop");
        x.record(0, true);
        x.run(0, 7);
        long[] counts = {x.state(0, 5), x.state(0, 6), x.state(0, 7), x.block(0, 1), x.block(0, 2), x.block(0, 3)};
        String trace = trace(x);
        CHECK.due("there are blocks", x.block(0, 0) > 0 ? 1 : 0, 1);
        x.back(0, 2);
        long[] then = {x.state(0, 5), x.state(0, 6), x.state(0, 7), x.block(0, 1), x.block(0, 2), x.block(0, 3)};
        for (int i = 0; i < counts.length; i++) {
            CHECK.due("count " + i, then[i], counts[i]);
        }
        CHECK.due("trace", trace(x), trace);
        CHECK.due("the book is empty", x.block(0, 0), 0);
        CHECK.due("harts are in none", x.hart(0, 0, 4) + x.hart(0, 1, 4), -2);
        x = Stage.in(1, false, "nop\nnop\nnop", 0x304, 0x80);
        x.time(0, -3);
        x.record(0, true);
        x.run(0, 3);
        CHECK.due("an interrupt", x.state(0, 7), 2);
        x.back(0, 1);
        CHECK.due("done again it doesn't count", x.state(0, 7), 2);
        CHECK.due("in M, by the interrupt", x.hart(0, 0, 0), 3);
        CHECK.due("replay", x.replay(0), 1);
        CHECK.due("alike", x.alike(0, 1), 1);
        CHECK.due("nor in a replay", x.state(1, 7), 0);
        x = Check.house(1, 1, "nop", "nop", "nop");
        x.record(0, true);
        x.run(0, 1);
        CHECK.due("in a block", x.hart(0, 0, 4), RAM + 4);
        x.back(0, 0);
        CHECK.due("n 0: the book is empty", x.block(0, 0), 0);
        CHECK.due("in none", x.hart(0, 0, 4), -1);
    }

    private static String trace(RiscMonitor x) {
        StringBuilder text = new StringBuilder();
        for (int i = 0; i < 33; i++) {
            text.append(x.trace(0, i, 0)).append(' ').append(x.trace(0, i, 1)).append(' ').append(x.trace(0, i, 3)).append(',');
        }
        return text.toString();
    }

    private static void replayOfEach() {
        CHECK.about("promise 29: inputs come at their steps");
        RiscMonitor x = listening();
        for (int step = 0; step < 30; step++) {
            input(x, step);
            x.run(0, 1 + step % 3);
            if (step % 3 == 0) {
                int p = x.replay(0);
                CHECK.due("replay", p, 1);
                CHECK.due("alike behind " + step, x.alike(0, p), 1);
                CHECK.due("RUNNING", x.state(p, 0), 0);
                CHECK.due("counts", x.state(p, 5) + x.state(p, 6) + x.state(p, 7) + x.block(p, 0) + x.block(p, 1) + x.block(p, 2) + x.block(p, 3), 0);
                CHECK.due("in none", x.hart(p, 0, 4) + x.hart(p, 1, 4), -2);
                x.drop(p);
            }
        }
        int p = x.replay(0);
        x.run(0, 50);
        x.run(p, 50);
        CHECK.due("they go on alike", x.alike(0, p), 1);
        CHECK.due("the replay doesn't record", x.count(4), 1);
        CHECK.due("no replay of it", x.replay(p), -5);
        x.time(p, 7);
        CHECK.due("it is a computer by itself", x.alike(0, p), 0);
    }

    private static void replayOfOff() {
        CHECK.about("promise 29: up to now");
        RiscMonitor x = Check.house(1, 1, "la s0,0x100000", "li a0,0x73333", "sw a0,0(s0)");
        x.record(0, true);
        CHECK.due("at once", x.replay(0), 1);
        CHECK.due("as the beginning was", x.alike(0, 1), 1);
        x.run(0, 10);
        x.key(0, 4);
        CHECK.due("replay", x.replay(0), 2);
        CHECK.due("alike", x.alike(0, 2), 1);
        CHECK.due("OFF", x.state(2, 0), 1);
        CHECK.due("CODE", x.state(2, 1), 7);
        x = Check.house(1, 1, "la s0,0x100000", "li a0,0x7777", "sw a0,0(s0)");
        x.record(0, true);
        x.run(0, 33);
        CHECK.due("RESETs by POWER are of it", x.replay(0), 1);
        CHECK.due("alike", x.alike(0, 1), 1);
        x = Check.house(1, 1, "la s0,0x10003000", "li a0,3", "sd a0,0(s0)", "j 0x80000010");
        x.record(0, true);
        x.run(0, 33);
        CHECK.due("RESETs by the DOG are of it", x.replay(0), 1);
        CHECK.due("alike", x.alike(0, 1), 1);
        CHECK.due("back over one", x.back(0, 20), 1);
        CHECK.due("MTIME", x.control(0, 0, 0xc01), 13);
    }

    private static void lengths() {
        CHECK.about("term 10: with its 10,001st step it records no more");
        RiscMonitor x = Check.house(1, 1, "addi a0,a0,1", "j 0x80000000");
        x.record(0, true);
        for (int i = 0; i < 5; i++) {
            x.run(0, 2000);
        }
        CHECK.due("10,000", x.count(4), 1);
        CHECK.due("back 10,001", x.back(0, 10001), -4);
        CHECK.due("replay", x.replay(0), 1);
        CHECK.due("alike", x.alike(0, 1), 1);
        CHECK.due("back 1", x.back(0, 1), 1);
        x.run(0, 1);
        CHECK.due("10,000 again", x.count(4), 1);
        x.run(0, 1);
        CHECK.due("10,001", x.count(4), 0);
        CHECK.due("back", x.back(0, 0), -5);
        CHECK.due("replay", x.replay(0), -5);
        CHECK.due("record", x.record(0, false), 0);
        CHECK.due("steps", x.state(0, 5), 10002);
        x = Check.house(1, 1, "addi a0,a0,1", "j 0x80000000");
        x.record(0, true);
        for (int i = 0; i < 5; i++) {
            x.run(0, 2000);
        }
        CHECK.due("back 10,000", x.back(0, 10000), 1);
        CHECK.due("the beginning", x.register(0, 0, 10), 0);
        CHECK.due("it records", x.count(4), 1);
        x = Check.house(1, 1, "addi a0,a0,1", "j 0x80000000");
        x.record(0, true);
        for (int i = 0; i < 4; i++) {
            x.run(0, 2000);
        }
        x.run(0, 1999);
        CHECK.due("over the end in one run", x.run(0, 5), 5);
        CHECK.due("it records no more", x.count(4), 0);
    }

    private static RiscMonitor recording() {
        RiscMonitor x = Check.house(1, 1, "j 0x80000000");
        x.picture(0);
        x.record(0, true);
        x.run(0, 3);
        return x;
    }

    private static void ends() {
        CHECK.about("term 10: ends its record");
        RiscMonitor x = recording();
        Check.make(x, 0, RAM, "nop");
        CHECK.due("a good assemble()", x.count(4), 0);
        x = recording();
        CHECK.due("of no bytes", x.assemble(0, RAM), 0);
        CHECK.due("too", x.count(4), 0);
        x = recording();
        x.restore(0, 0);
        CHECK.due("restore()", x.back(0, 0), -5);
        x = recording();
        x.reset(0);
        CHECK.due("reset()", x.back(0, 0), -5);
        x = recording();
        x.drop(0);
        CHECK.due("drop()", x.count(4), 0);
        x.computer(1, 1);
        CHECK.due("a new one doesn't record", x.back(0, 0), -5);
        x = recording();
        x.move(0);
        x.record(1, true);
        CHECK.due("two record", x.count(4), 2);
        x.finish(1, true);
        CHECK.due("the end of a move, of both", x.count(4), 0);
        x = recording();
        CHECK.due("record(false)", x.record(0, false), 1);
        CHECK.due("it does no more", x.count(4), 0);
    }

    private static void endsNot() {
        CHECK.about("term 10: doesn't end its record");
        RiscMonitor x = recording();
        Check.make(x, 0, RAM, "bad");
        x.computer(1, 2);
        x.restore(1, 0);
        x.drop(1);
        x.move(0);
        x.round(1, 1);
        x.finish(1, false);
        x.move(0);
        x.drop(1);
        x.picture(0);
        x.fork(1);
        x.mark(0, 0, RAM);
        x.run(0, 1);
        x.go(0);
        x.run(0, 2000);
        x.unmark(0, 0);
        x.forget(0);
        CHECK.due("it records", x.count(4), 1);
        CHECK.due("back all", x.back(0, 4), 1);
        CHECK.due("no more", x.back(0, 1), -4);
    }

    private static void anew() {
        CHECK.about("promise 27");
        RiscMonitor x = Check.house(1, 1, "addi a0,a0,1", "j 0x80000000");
        CHECK.due("it didn't", x.record(0, false), 0);
        CHECK.due("it didn't", x.record(0, true), 0);
        x.run(0, 4);
        CHECK.due("it did", x.record(0, true), 1);
        CHECK.due("no steps", x.back(0, 1), -4);
        x.run(0, 2);
        CHECK.due("three are too many", x.back(0, 3), -4);
        CHECK.due("two", x.back(0, 2), 1);
        CHECK.due("the new beginning", x.register(0, 0, 10), 2);
        CHECK.due("it did", x.record(0, false), 1);
        CHECK.due("it didn't", x.record(0, false), 0);
    }
}
