/** Promises 22 to 26 and 30: pictures, and whether computers are alike. */
public final class PictureTest {
    private static final Check CHECK = new Check();
    private static final long RAM = Check.RAM;

    public static void main(String[] args) {
        pictures();
        restores();
        forks();
        changes();
        alikes();
        CHECK.end();
    }

    private static void pictures() {
        CHECK.about("promise 22");
        RiscMonitor x = Check.house(1, 1, "nop");
        CHECK.due("no such computer", x.picture(1), -2);
        for (int s = 0; s < 6; s++) {
            CHECK.due("picture", x.picture(0), s);
        }
        CHECK.due("a seventh", x.picture(0), -1);
        CHECK.due("-2 ahead of NONE", x.picture(2), -2);
        CHECK.about("promise 23");
        CHECK.due("forget", x.forget(3), 1);
        CHECK.due("again", x.forget(3), -2);
        CHECK.due("-1", x.forget(-1), -2);
        CHECK.due("6", x.forget(6), -2);
        CHECK.due("pictures", x.count(1), 5);
        CHECK.about("promise 22");
        CHECK.due("the least that none has", x.picture(0), 3);
    }

    private static void restores() {
        CHECK.about("promise 24");
        RiscMonitor x = Check.house(2, 2, "a: addi a0,a0,1", "la s0,0x80001040", "lr.w a1,(s0)", "sb a0,8(s0)", "wfi");
        x.key(0, 7);
        x.run(0, 8);
        x.picture(0);
        x.run(0, 4);
        x.key(0, 8);
        x.time(0, 99);
        x.record(0, true);
        x.computer(2, 3);
        x.computer(1, 2);
        CHECK.due("no such computer", x.restore(3, 0), -2);
        CHECK.due("no such picture", x.restore(0, 1), -2);
        CHECK.due("other pages", x.restore(1, 0), 0);
        CHECK.due("other harts", x.restore(2, 0), 0);
        CHECK.due("restore", x.restore(0, 0), 1);
        CHECK.due("pc", x.hart(0, 0, 1), RAM + 16);
        CHECK.due("RESERVATION", x.hart(0, 0, 3), RAM + 4096 + 64);
        CHECK.due("who waits", x.hart(0, 1, 2), 0);
        CHECK.due("RAM", x.cell(0, RAM + 4096 + 72), 0);
        CHECK.due("MTIME", x.control(0, 0, 0xc01), 8);
        CHECK.due("keys", x.key(0, 1), 2);
        CHECK.due("counts stay", x.state(0, 5), 12);
        CHECK.due("trace stays", x.trace(0, 0, 1), RAM + 20);
        CHECK.due("the record is ended", x.count(4), 0);
        CHECK.due("the book is empty", x.block(0, 0), 0);
        x = Check.house(1, 1, "nop", "li s0,0x100000", "li a0,0x73333", "sw a0,0(s0)");
        x.run(0, 10);
        x.picture(0);
        x.reset(0);
        x.mark(0, 0, RAM + 4);
        x.run(0, 5);
        CHECK.due("STOPPED", x.state(0, 0), 2);
        x.restore(0, 0);
        CHECK.due("OFF", x.state(0, 0), 1);
        CHECK.due("with its CODE", x.state(0, 1), 7);
        x.reset(0);
        CHECK.due("marks stay", x.run(0, 5), 1);
        x.picture(0);
        x.restore(0, 1);
        CHECK.due("not whether it is STOPPED", x.state(0, 0), 0);
    }

    private static void forks() {
        CHECK.about("promise 25");
        RiscMonitor x = Check.house(2, 2, "nop", "nop", "nop");
        CHECK.due("no such picture", x.fork(0), -2);
        x.run(0, 3);
        x.mark(0, 0, RAM + 8);
        x.picture(0);
        x.run(0, 1);
        CHECK.due("fork", x.fork(0), 1);
        CHECK.due("harts", x.state(1, 2), 2);
        CHECK.due("pages", x.state(1, 3), 2);
        CHECK.due("turn", x.state(1, 4), 1);
        CHECK.due("its counts", x.state(1, 5), 0);
        CHECK.due("its trace", x.trace(1, 0, 0), -1);
        CHECK.due("its book", x.block(1, 2), 0);
        CHECK.due("RUNNING", x.state(1, 0), 0);
        CHECK.due("no marks", x.run(1, 2), 2);
        CHECK.due("fork", x.fork(0), 2);
        CHECK.due("fork", x.fork(0), 3);
        CHECK.due("there are four", x.fork(0), -1);
        CHECK.due("-2 ahead of NONE", x.fork(5), -2);
    }

    private static void changes() {
        CHECK.about("promise 26");
        RiscMonitor x = Check.house(1, 4, "nop");
        x.picture(0);
        CHECK.due("no such computer", x.changed(1, 0), -2);
        CHECK.due("no such picture", x.changed(0, 1), -2);
        CHECK.due("none", x.changed(0, 0), 0);
        x.poke(0, RAM, 0x13);
        CHECK.due("the same byte", x.changed(0, 0), 0);
        x.poke(0, RAM + 4095, 1);
        x.poke(0, RAM + 3 * 4096, 1);
        CHECK.due("two", x.changed(0, 0), 2);
        x.poke(0, RAM + 4095, 0);
        CHECK.due("one", x.changed(0, 0), 1);
        x.computer(1, 3);
        CHECK.due("other pages", x.changed(1, 0), -1);
        x.computer(2, 4);
        CHECK.due("other harts do not matter", x.changed(2, 0), 1);
    }

    private static void alikes() {
        CHECK.about("promise 30");
        RiscMonitor x = Check.house(2, 2, "wfi", "nop");
        x.picture(0);
        x.fork(0);
        CHECK.due("no such computer", x.alike(0, 2), -2);
        CHECK.due("no such computer", x.alike(-1, 0), -2);
        CHECK.due("itself", x.alike(0, 0), 1);
        CHECK.due("a fork", x.alike(0, 1), 1);
        x.mark(0, 0, 5);
        CHECK.due("but marks", x.alike(0, 1), 1);
        x.run(0, 1);
        CHECK.due("a step more", x.alike(0, 1), 0);
        x.run(1, 1);
        CHECK.due("both", x.alike(0, 1), 1);
        x.wire(1, 4, true);
        CHECK.due("a wire", x.alike(0, 1), 0);
        x.restore(0, 0);
        x.restore(1, 0);
        x.key(0, 0);
        CHECK.due("a key", x.alike(0, 1), 0);
        x.restore(0, 0);
        x.poke(0, RAM + 8191, 1);
        CHECK.due("a byte", x.alike(0, 1), 0);
        x.restore(0, 0);
        x.time(0, 1);
        CHECK.due("MTIME", x.alike(0, 1), 0);
        x.computer(2, 3);
        CHECK.due("other pages", x.alike(0, 2), 0);
        x.computer(1, 2);
        CHECK.due("other harts", x.alike(0, 3), 0);
        x = Check.house(1, 1, "nop");
        x.computer(1, 1);
        Check.make(x, 1, RAM, "nop");
        x.mark(0, 0, RAM);
        x.run(0, 1);
        CHECK.due("STOPPED", x.state(0, 0), 2);
        CHECK.due("not whether it is STOPPED", x.alike(0, 1), 1);
    }
}
