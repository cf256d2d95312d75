/** Promises 27 to 29: records, going back, and replays. */
public final class RecordTest {
    private static final Check CHECK = new Check();
    private static final long RAM = Check.RAM;

    public static void main(String[] args) {
        records();
        backs();
        inputs();
        longRecord();
        replays();
        endings();
        CHECK.end();
    }

    private static void records() {
        CHECK.about("promise 27");
        RiscMonitor x = Check.house(1, 1, "a: addi a0,a0,1", "j a");
        CHECK.due("no such computer", x.record(1, true), -2);
        CHECK.due("it didn't", x.record(0, false), 0);
        CHECK.due("it didn't", x.record(0, true), 0);
        x.run(0, 5);
        CHECK.due("it did", x.record(0, true), 1);
        CHECK.due("anew", x.back(0, 1), -4);
        CHECK.due("it did", x.record(0, false), 1);
        CHECK.due("it does no more", x.back(0, 0), -5);
    }

    private static void backs() {
        CHECK.about("promise 28");
        RiscMonitor x = Check.house(1, 1, "a: addi a0,a0,1", "sw a0,64(s0)", "j a");
        x.poke(0, RAM + 64, 9);
        CHECK.due("no such computer", x.back(1, -1), -2);
        CHECK.due("-5 ahead of -4", x.back(0, -1), -5);
        x.record(0, true);
        x.run(0, 10);
        CHECK.due("-1", x.back(0, -1), -4);
        CHECK.due("too many", x.back(0, 11), -4);
        CHECK.due("one", x.back(0, 1), 1);
        CHECK.due("steps ever done stay", x.state(0, 5), 10);
        CHECK.due("traps stay", x.state(0, 7), 9);
        CHECK.due("MTIME", x.control(0, 0, 0xc01), 9);
        CHECK.due("all", x.back(0, 9), 1);
        CHECK.due("the beginning", x.register(0, 0, 10), 0);
        CHECK.due("MTIME", x.control(0, 0, 0xc01), 0);
        CHECK.due("no more", x.back(0, 1), -4);
        CHECK.due("none", x.back(0, 0), 1);
        CHECK.due("it records still", x.count(4), 1);
        x = Check.house(1, 1, "nop", "li s0,0x100000", "li a0,0x5555", "sw a0,0(s0)");
        x.record(0, true);
        x.mark(0, 0, RAM + 8);
        CHECK.due("a stop", x.run(0, 10), 2);
        x.back(0, 0);
        CHECK.due("RUNNING", x.state(0, 0), 0);
        CHECK.due("the mark holds again", x.run(0, 10), 0);
        x.go(0);
        x.back(0, 0);
        CHECK.due("go() is forgotten", x.run(0, 10), 0);
        x.go(0);
        CHECK.due("OFF", x.run(0, 10), 4);
        CHECK.due("back from there", x.back(0, 1), 1);
        CHECK.due("RUNNING", x.state(0, 0), 0);
        CHECK.due("the book is empty", x.block(0, 0), 0);
        CHECK.due("DROPPED aren't those", x.block(0, 3), 0);
        CHECK.due("the trace stays", x.trace(0, 0, 1), RAM + 20);
        CHECK.due("OFF again", x.run(0, 10), 1);
    }

    private static void inputs() {
        CHECK.about("promise 28, inputs");
        RiscMonitor x = Check.house(1, 1, "j 0x80000000");
        x.record(0, true);
        x.poke(0, RAM + 100, 1);
        x.run(0, 5);
        x.poke(0, RAM + 101, 2);
        x.wire(0, 6, true);
        x.run(0, 5);
        x.key(0, 3);
        x.time(0, 1000);
        x.back(0, 0);
        CHECK.due("n 0: as it is", x.control(0, 0, 0xc01), 1000);
        x.back(0, 2);
        CHECK.due("those behind are forgotten", x.control(0, 0, 0xc01), 8);
        CHECK.due("this one, too", x.key(0, 3), 1);
        CHECK.due("one ahead", x.cell(0, RAM + 101), 2);
        x.run(0, 2);
        x.back(0, 5);
        CHECK.due("just behind the step: no input behind it", x.cell(0, RAM + 101), 0);
        CHECK.due("the wire is off", x.wire(0, 6, false), 0);
        CHECK.due("one ahead of the first step", x.cell(0, RAM + 100), 1);
        x.back(0, 5);
        CHECK.due("all steps go: that, too", x.cell(0, RAM + 100), 0);
        x.run(0, 5);
        x.back(0, 1);
        CHECK.due("it is forgotten", x.cell(0, RAM + 100), 0);
        for (int i = 0; i < 200; i++) {
            CHECK.due("input " + i, x.poke(0, RAM + 50, i), 1);
        }
        CHECK.due("one more", x.time(0, 1), -1);
        x.run(0, 1);
        x.back(0, 1);
        CHECK.due("there is room again", x.time(0, 1), 1);
    }

    private static void longRecord() {
        CHECK.about("promise 27, 10,000 steps");
        RiscMonitor x = Check.house(1, 1, "a: addi a0,a0,1", "j a");
        x.record(0, true);
        for (int i = 0; i < 5; i++) {
            x.run(0, 2000);
        }
        CHECK.due("10,000", x.count(4), 1);
        CHECK.due("back all", x.back(0, 10000), 1);
        for (int i = 0; i < 5; i++) {
            x.run(0, 2000);
        }
        x.run(0, 1);
        CHECK.due("10,001", x.count(4), 0);
        CHECK.due("no record", x.back(0, 0), -5);
    }

    private static void replays() {
        CHECK.about("promise 29");
        RiscMonitor x = Check.house(2, 2, "li s0,0x10000000", "a: lbu a0,0(s0)", "add a1,a1,a0", "j a");
        CHECK.due("no such computer", x.replay(1), -2);
        CHECK.due("it doesn't record", x.replay(0), -5);
        x.run(0, 7);
        x.record(0, true);
        x.key(0, 5);
        x.run(0, 20);
        x.key(0, 6);
        x.poke(0, RAM + 4096, 3);
        x.wire(0, 4, true);
        x.run(0, 20);
        x.time(0, 7);
        CHECK.due("replay", x.replay(0), 1);
        CHECK.due("alike", x.alike(0, 1), 1);
        CHECK.due("what the keys did", x.register(1, 0, 11) + x.register(1, 1, 11), 11);
        CHECK.due("its counts", x.state(1, 5), 0);
        CHECK.due("its book", x.block(1, 0), 0);
        CHECK.due("its trace", x.trace(1, 0, 0), -1);
        CHECK.due("it records not", x.count(4), 1);
        CHECK.due("replay", x.replay(0), 2);
        CHECK.due("replay", x.replay(0), 3);
        CHECK.due("there are four", x.replay(0), -1);
    }

    private static void endings() {
        CHECK.about("promise 27, ends");
        RiscMonitor x = Check.house(1, 1, "nop", "nop");
        x.record(0, true);
        int v = x.move(0);
        x.record(v, true);
        x.round(v, 1);
        x.finish(v, false);
        CHECK.due("a move that is broken off doesn't", x.count(4), 1);
        v = x.move(0);
        x.record(v, true);
        x.round(v, 1);
        CHECK.due("pages that come don't", x.count(4), 2);
        x.replay(v);
        CHECK.due("a REPLAY has none of these", x.cell(2, RAM), 0);
        CHECK.due("it is RUNNING", x.state(2, 0), 0);
        x.finish(v, true);
        CHECK.due("a move that is FINISHED does", x.count(4), 0);
    }
}
