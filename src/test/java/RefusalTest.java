/** The head of "Terms": what is refused changes nothing; -2, -4, -5, NONE, the first of these that holds. */
public final class RefusalTest {
    private static final Check CHECK = new Check();
    private static final long RAM = Check.RAM;
    private static final int LEAST = Integer.MIN_VALUE;
    private static final int MOST = Integer.MAX_VALUE;

    public static void main(String[] args) {
        noComputer();
        noHart();
        noPicture();
        noMove();
        outside();
        notInThisState();
        noSeat();
        noRoomForInputs();
        noRoomForKeys();
        noRoomForMarks();
        noRoomForPictures();
        CHECK.end();
    }

    /** Two computers: 0 of two harts records and has run, 1 is OFF; a picture of 0; signs on the tape. */
    private static RiscMonitor house() {
        RiscMonitor x = Check.house(2, 2, "la s0,0x10000000", "sb s0,0(s0)", "addi a0,a0,1", "lr.w a1,(s1)", "j 0x80000004");
        x.picture(0);
        x.record(0, true);
        x.key(0, 7);
        x.run(0, 9);
        x.computer(1, 2);
        Check.make(x, 1, RAM, "li s0,0x100000", "li a0,0x3333", "sw a0,0(s0)");
        x.run(1, 10);
        Check.type(x, "nop");
        return x;
    }

    private static void same(RiscMonitor x, String before) {
        CHECK.due("nothing is changed", Check.sight(x), before);
    }

    private static void noComputer() {
        CHECK.about("-2 no such computer");
        for (int m : new int[] {-1, 2, 3, 4, LEAST, MOST}) {
            RiscMonitor x = house();
            String before = Check.sight(x);
            long[] answers = {x.drop(m), x.assemble(m, RAM), x.assemble(m, 0), x.list(m, RAM, 0), x.list(m, 0, -1), x.run(m, 1), x.run(m,
                    0), x.reset(m), x.state(m, 0), x.state(m, 99),
                x.hart(m, 0, 0), x.hart(m, 9, 9), x.cell(m, RAM), x.cell(m, 0), x.poke(m, RAM, 1), x.poke(m, 0, 1), x.walk(m, 0, RAM, 0),
                        x.walk(m, 0, RAM, 9), x.key(m, 1), x.key(m, 999),
                x.serial(m, 0), x.serial(m, -1), x.wire(m, 4, true), x.wire(m, 9, true), x.time(m, 1), x.sector(m, 0, 0), x.sector(m, -1,
                        0), x.block(m, 0), x.block(m, -1), x.picture(m), x.restore(m, 0),
                x.changed(m, 0), x.record(m, true), x.record(m, false), x.back(m, 0), x.back(m, -1), x.replay(m), x.alike(m, 0), x.alike(0,
                        m), x.alike(m, m), x.move(m), x.round(m, 1), x.round(m, 0),
                x.lose(m, 1), x.lose(m, 0), x.finish(m, true), x.finish(m, false), x.mark(m, 0, 0), x.mark(m, 9, 0), x.unmark(m, 0),
                        x.go(m), x.trace(m, 0, 0), x.trace(m, -1, 9)};
            for (int i = 0; i < answers.length; i++) {
                CHECK.due("call " + i + " of computer " + m, answers[i], -2);
            }
            CHECK.dueRefusal("register", () -> x.register(m, 0, 0));
            CHECK.dueRefusal("control", () -> x.control(m, 0, 0x300));
            same(x, before);
        }
    }

    private static void noHart() {
        CHECK.about("-2 no such hart");
        RiscMonitor x = house();
        String before = Check.sight(x);
        for (int h : new int[] {-1, 2, 4, LEAST, MOST}) {
            CHECK.due("hart", x.hart(0, h, 0), -2);
            CHECK.due("walk", x.walk(0, h, RAM, 1), -2);
            CHECK.due("walk, ahead of -4", x.walk(0, h, RAM, 7), -2);
            CHECK.dueRefusal("register", () -> x.register(0, h, 0));
            CHECK.dueRefusal("control", () -> x.control(0, h, 0x300));
        }
        for (int what : new int[] {-1, 5, LEAST, MOST}) {
            CHECK.due("others of a hart", x.hart(0, 1, what), -1);
        }
        for (int what : new int[] {-1, 9, LEAST, MOST}) {
            CHECK.due("others of a computer", x.state(0, what), -1);
        }
        for (int what : new int[] {-1, 5, LEAST, MOST}) {
            CHECK.due("others of the house", x.count(what), -1);
        }
        same(x, before);
    }

    private static void noPicture() {
        CHECK.about("-2 no such picture");
        RiscMonitor x = house();
        String before = Check.sight(x);
        for (int s : new int[] {-1, 1, 5, 6, LEAST, MOST}) {
            CHECK.due("forget", x.forget(s), -2);
            CHECK.due("restore", x.restore(0, s), -2);
            CHECK.due("fork", x.fork(s), -2);
            CHECK.due("changed", x.changed(0, s), -2);
        }
        CHECK.due("restore of another", x.restore(1, 0), 0);
        same(x, before);
    }

    private static void noMove() {
        CHECK.about("-2 no move to it");
        RiscMonitor x = house();
        CHECK.due("move", x.move(0), 2);
        String before = Check.sight(x);
        for (int v : new int[] {0, 1, 3}) {
            CHECK.due("round", x.round(v, 1), -2);
            CHECK.due("round, ahead of -4", x.round(v, 0), -2);
            CHECK.due("lose", x.lose(v, 1), -2);
            CHECK.due("lose, ahead of -4", x.lose(v, 41), -2);
            CHECK.due("finish", x.finish(v, true), -2);
            CHECK.due("finish", x.finish(v, false), -2);
        }
        for (int n : new int[] {0, -1, 17, LEAST, MOST}) {
            CHECK.due("round of " + n, x.round(2, n), -4);
        }
        for (int k : new int[] {0, -1, 41, 64, 65, LEAST, MOST}) {
            CHECK.due("lose " + k, x.lose(2, k), -4);
        }
        for (int k : new int[] {-1, 0, 8, LEAST, MOST}) {
            CHECK.due("unmark " + k, x.unmark(0, k), -2);
        }
        same(x, before);
    }

    private static void outside() {
        CHECK.about("-4 a number is outside");
        RiscMonitor x = house();
        x.fork(0);
        String before = Check.sight(x);
        for (int n : new int[] {0, -1, 5, 17, LEAST, MOST}) {
            CHECK.due("computer of " + n, x.computer(n, n), -4);
        }
        CHECK.due("computer", x.computer(5, 1), -4);
        CHECK.due("computer", x.computer(1, 17), -4);
        for (long at : new long[] {RAM - 1, RAM + 8192, 0, -1, Long.MIN_VALUE, Long.MAX_VALUE}) {
            CHECK.due("assemble", x.assemble(0, at), -4);
            CHECK.due("poke", x.poke(0, at, 1), -4);
            CHECK.due("mark of RAM", x.mark(0, 1, at), -4);
            CHECK.due("cell", x.cell(0, at), -1);
            CHECK.due("list", x.list(0, at, 0), -1);
        }
        for (int n : new int[] {0, -1, 2001, LEAST, MOST}) {
            CHECK.due("run", x.run(0, n), -4);
            CHECK.due("run, ahead of -5", x.run(1, n), -4);
        }
        for (int n : new int[] {-1, 3, LEAST, MOST}) {
            CHECK.due("walk", x.walk(0, 0, RAM, n), -4);
            CHECK.due("wire", x.wire(0, n, true), -4);
            CHECK.due("mark", x.mark(0, n, RAM), -4);
        }
        CHECK.due("wire", x.wire(0, 8, true), -4);
        for (int n : new int[] {-1, 256, LEAST, MOST}) {
            CHECK.due("key", x.key(0, n), -4);
        }
        for (int n : new int[] {-1, 10, LEAST, MOST}) {
            CHECK.due("back", x.back(0, n), -4);
        }
        same(x, before);
        CHECK.due("a key still waits", x.key(0, 7), 2);
        CHECK.due("no wire is on", x.wire(0, 4, true), 0);
        CHECK.due("the record has its steps", x.back(0, 9), 1);
        CHECK.due("alike what it was", x.alike(0, 2), 1);
    }

    private static void notInThisState() {
        CHECK.about("-5 not in this state");
        RiscMonitor x = house();
        CHECK.due("a computer that is STOPPED", x.computer(1, 1), 2);
        x.mark(2, 0, RAM);
        x.run(2, 1);
        CHECK.due("move", x.move(0), 3);
        String before = Check.sight(x);
        int[] states = {0, 1, 2, 3};
        for (int m = 0; m < 4; m++) {
            CHECK.due("state", x.state(m, 0), states[m]);
        }
        for (int m = 1; m < 4; m++) {
            CHECK.due("run", x.run(m, 1), -5);
            CHECK.due("move", x.move(m), -5);
            CHECK.due("back, ahead of -4", x.back(m, -1), -5);
            CHECK.due("back", x.back(m, 0), -5);
            CHECK.due("replay, ahead of NONE", x.replay(m), -5);
            if (m != 2) {
                CHECK.due("go", x.go(m), -5);
            }
        }
        CHECK.due("go of a RUNNING one", x.go(0), -5);
        CHECK.due("move of one that is moved, ahead of NONE", x.move(0), -5);
        same(x, before);
        CHECK.due("go", x.go(2), 1);
    }

    private static void noSeat() {
        CHECK.about("NONE no room: four computers");
        RiscMonitor x = house();
        x.fork(0);
        x.computer(4, 16);
        String before = Check.sight(x);
        CHECK.due("computer", x.computer(1, 1), -1);
        CHECK.due("computer, -4 is ahead", x.computer(0, 1), -4);
        CHECK.due("fork", x.fork(0), -1);
        CHECK.due("fork, -2 is ahead", x.fork(3), -2);
        CHECK.due("replay", x.replay(0), -1);
        CHECK.due("replay, -5 is ahead", x.replay(2), -5);
        CHECK.due("replay, -2 is ahead", x.replay(4), -2);
        CHECK.due("move", x.move(0), -1);
        CHECK.due("move, -5 is ahead", x.move(1), -5);
        same(x, before);
        x.drop(1);
        CHECK.due("a seat is free", x.computer(1, 1), 1);
    }

    private static void noRoomForInputs() {
        CHECK.about("NONE a record is full");
        RiscMonitor x = Check.house(1, 1, "j 0x80000000");
        x.record(0, true);
        for (int i = 0; i < 50; i++) {
            CHECK.due("poke", x.poke(0, RAM + 8, i), 1);
            CHECK.due("wire", x.wire(0, 4 + i % 4, true) >= 0 ? 1 : 0, 1);
            CHECK.due("time", x.time(0, i), 1);
            CHECK.due("time", x.time(0, i), 1);
        }
        x.picture(0);
        x.fork(0);
        String before = Check.sight(x);
        CHECK.due("poke", x.poke(0, RAM + 8, 77), -1);
        CHECK.due("wire", x.wire(0, 4, false), -1);
        CHECK.due("time", x.time(0, 77), -1);
        CHECK.due("key", x.key(0, 77), -1);
        CHECK.due("poke, -4 is ahead", x.poke(0, RAM - 1, 77), -4);
        CHECK.due("wire, -4 is ahead", x.wire(0, 3, false), -4);
        CHECK.due("key, -4 is ahead", x.key(0, 256), -4);
        CHECK.due("alike what it was", x.alike(0, 1), 1);
        CHECK.due("it records still", x.count(4), 1);
        same(x, before);
        x.run(0, 3);
        CHECK.due("behind steps, too", x.time(0, 1), -1);
        x.back(0, 3);
        CHECK.due("going back makes room", x.key(0, 77), 1);
    }

    private static void noRoomForKeys() {
        CHECK.about("NONE when 16 wait");
        RiscMonitor x = house();
        for (int i = 2; i <= 16; i++) {
            CHECK.due("key", x.key(0, i), i);
        }
        x.picture(0);
        x.fork(1);
        String before = Check.sight(x);
        CHECK.due("key", x.key(0, 3), -1);
        CHECK.due("key, -4 is ahead", x.key(0, -1), -4);
        CHECK.due("alike what it was", x.alike(0, 2), 1);
        same(x, before);
        CHECK.due("it is no input: a replay is alike", x.replay(0), 3);
        CHECK.due("alike", x.alike(0, 3), 1);
    }

    private static void noRoomForMarks() {
        CHECK.about("NONE when there are 8");
        RiscMonitor x = house();
        for (int k = 0; k < 8; k++) {
            CHECK.due("mark", x.mark(0, k % 2, RAM + k), k);
        }
        String before = Check.sight(x);
        CHECK.due("mark", x.mark(0, 0, RAM), -1);
        CHECK.due("mark", x.mark(0, 1, RAM), -1);
        CHECK.due("-4 is ahead", x.mark(0, 2, RAM), -4);
        CHECK.due("-4 is ahead", x.mark(0, 1, RAM - 1), -4);
        CHECK.due("another computer has its own", x.mark(1, 0, 5), 0);
        same(x, before);
        CHECK.due("unmark", x.unmark(0, 7), 1);
        CHECK.due("unmark", x.unmark(0, 3), 1);
        CHECK.due("the least", x.mark(0, 0, RAM), 3);
        CHECK.due("the other", x.mark(0, 0, RAM), 7);
        CHECK.due("no more", x.mark(0, 0, RAM), -1);
    }

    private static void noRoomForPictures() {
        CHECK.about("NONE when there are 6");
        RiscMonitor x = house();
        for (int s = 1; s < 6; s++) {
            CHECK.due("picture", x.picture(s % 2), s);
        }
        String before = Check.sight(x);
        CHECK.due("picture", x.picture(0), -1);
        CHECK.due("-2 is ahead", x.picture(3), -2);
        same(x, before);
        CHECK.due("a record has its own", x.back(0, 3), 1);
        CHECK.due("forget", x.forget(5), 1);
        CHECK.due("forget", x.forget(0), 1);
        CHECK.due("pictures", x.count(1), 4);
        CHECK.due("the least", x.picture(0), 0);
        CHECK.due("the other", x.picture(0), 5);
        CHECK.due("no more", x.picture(0), -1);
    }
}
