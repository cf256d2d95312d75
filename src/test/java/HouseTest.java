/** Promises 1 to 4, 9 and 39: the house, its tape and its computers. */
public final class HouseTest {
    private static final Check CHECK = new Check();
    private static final long RAM = Check.RAM;

    public static void main(String[] args) {
        newObject();
        tape();
        computers();
        drops();
        usedSeats();
        lastCall();
        states();
        counts();
        CHECK.end();
    }

    private static void newObject() {
        CHECK.about("promise 1");
        RiscMonitor x = new RiscMonitor();
        for (int what = 0; what < 5; what++) {
            CHECK.due("count(" + what + ") of a new object", x.count(what), 0);
        }
        CHECK.due("NONE", RiscMonitor.NONE, -1);
        CHECK.due("state of no computer", x.state(0, 0), -2);
        CHECK.due("no picture", x.fork(0), -2);
    }

    private static void tape() {
        CHECK.about("promise 2");
        RiscMonitor x = new RiscMonitor();
        x.sign(0x6100621f7f20807eL);
        CHECK.due("a, b, blank and ~ alone", x.count(2), 4);
        x.sign(0x0a0a0a0a0a0a0a0aL);
        CHECK.due("ends of lines", x.count(2), 12);
        for (int i = 0; i < 498; i++) {
            x.sign(0x2020202020202020L);
        }
        CHECK.due("3,996 signs", x.count(2), 3996);
        x.sign(0x2020202020202020L);
        CHECK.due("no more than 4,000", x.count(2), 4000);
        x.sign(0x2020202020202020L);
        CHECK.due("still 4,000", x.count(2), 4000);
        x.computer(1, 1);
        CHECK.due("the first sign of all is a fault", x.assemble(0, Check.RAM), -1);
        CHECK.due("the tape is empty behind a fault", x.count(2), 0);
    }

    private static void computers() {
        CHECK.about("promise 3");
        RiscMonitor x = new RiscMonitor();
        CHECK.due("computer(0, 1)", x.computer(0, 1), -4);
        CHECK.due("computer(5, 1)", x.computer(5, 1), -4);
        CHECK.due("computer(1, 0)", x.computer(1, 0), -4);
        CHECK.due("computer(1, 17)", x.computer(1, 17), -4);
        CHECK.due("computer(-1, 1)", x.computer(-1, 1), -4);
        CHECK.due("computer(4, 16)", x.computer(4, 16), 0);
        CHECK.due("computer(1, 1)", x.computer(1, 1), 1);
        CHECK.due("computer(2, 2)", x.computer(2, 2), 2);
        CHECK.due("computer(3, 3)", x.computer(3, 3), 3);
        CHECK.due("a fifth", x.computer(1, 1), -1);
        CHECK.due("-4 ahead of NONE", x.computer(9, 1), -4);
        CHECK.due("RUNNING", x.state(3, 0), 0);
        CHECK.due("harts", x.state(0, 2), 4);
        CHECK.due("pages", x.state(0, 3), 16);
        CHECK.due("mode M", x.hart(0, 3, 0), 3);
        CHECK.due("pc", x.hart(0, 3, 1), Check.RAM);
        CHECK.due("RAM is 0", x.cell(0, Check.RAM + 65535), 0);
        CHECK.due("RAM's end", x.cell(0, Check.RAM + 65536), -1);
        x.drop(1);
        CHECK.due("the least number that none has", x.computer(1, 2), 1);
    }

    private static void drops() {
        CHECK.about("promise 4");
        RiscMonitor x = new RiscMonitor();
        CHECK.due("drop of none", x.drop(0), -2);
        CHECK.due("drop(-1)", x.drop(-1), -2);
        CHECK.due("drop(4)", x.drop(4), -2);
        x.computer(1, 1);
        x.poke(0, Check.RAM, 7);
        x.mark(0, 0, 5);
        CHECK.due("its picture", x.picture(0), 0);
        CHECK.due("drop", x.drop(0), 1);
        CHECK.due("gone", x.state(0, 0), -2);
        CHECK.due("drop again", x.drop(0), -2);
        CHECK.due("the picture stays", x.count(1), 1);
        CHECK.due("fork of it", x.fork(0), 0);
        CHECK.due("its RAM", x.cell(0, Check.RAM), 7);
        x.drop(0);
        x.computer(1, 1);
        CHECK.due("a new one's RAM is 0", x.cell(0, Check.RAM), 0);
        CHECK.due("it has no marks", x.mark(0, 0, 5), 0);
    }

    /** A seat that was used is as a new one. */
    private static void usedSeats() {
        CHECK.about("promise 3: a new computer in a seat that was used");
        RiscMonitor x = Check.house(2, 2, "la s0,0x10000000", "li a0,7", "sb a0,0(s0)", "sb a0,1(s0)", "la s1,0x10001000",
                "la s2,0x80001000", "sd s2,8(s1)", "sd s2,0(s2)", "li a0,2", "sw a0,16(s1)", "lr.d a1,(s2)", "la s3,0x10003000",
                "sd s2,0(s3)", "ecall");
        x.key(0, 5);
        x.wire(0, 4, true);
        x.record(0, true);
        x.mark(0, 0, RAM + 0x800);
        x.run(0, 60);
        x.poke(0, RAM + 0x900, 1);
        x.run(0, 1);
        x.reset(0);
        x.run(0, 2);
        CHECK.due("it has blocks, traps and a trace", x.block(0, 0) > 0 && x.state(0, 7) > 0 && x.trace(0, 31, 0) >= 0 ? 1 : 0, 1);
        x.drop(0);
        x.computer(2, 2);
        x.computer(2, 2);
        CHECK.due("alike", x.alike(0, 1), 1);
        for (int what = 0; what < 9; what++) {
            CHECK.due("state " + what, x.state(0, what), x.state(1, what));
        }
        for (int what = 0; what < 8; what++) {
            CHECK.due("block " + what, x.block(0, what), x.block(1, what));
        }
        CHECK.due("nothing is DROPPED", x.block(0, 3), 0);
        CHECK.due("no trace", x.trace(0, 0, 0), -1);
        CHECK.due("no output", x.serial(0, 0), -1);
        CHECK.due("sectors are 0", x.sector(0, 0, 0), 0);
        CHECK.due("no mark", x.unmark(0, 0), -2);
        CHECK.due("no record", x.back(0, 0), -5);
        CHECK.due("a key", x.key(0, 1), 1);
        CHECK.due("a wire", x.wire(0, 4, true), 0);
        x.run(0, 3);
        for (int i = 0; i < 4; i++) {
            CHECK.due("its trace", x.trace(0, i, 0), i < 3 ? i % 2 : -1);
        }
    }

    private static void lastCall() {
        CHECK.about("an object is used for at most 512 calls");
        RiscMonitor x = new RiscMonitor();
        x.computer(1, 1);
        for (int i = 2; i <= 510; i++) {
            x.poke(0, RAM + i, i);
        }
        CHECK.due("the 511th", x.cell(0, RAM + 300), 300 & 255);
        CHECK.due("the 512th", x.cell(0, RAM + 510), 510 & 255);
    }

    private static void states() {
        CHECK.about("promise 9");
        RiscMonitor x = Check.house(2, 3, "wfi", ".word 0");
        CHECK.due("turn", x.state(0, 4), 0);
        x.run(0, 3);
        CHECK.due("turn behind three steps", x.state(0, 4), 1);
        CHECK.due("steps", x.state(0, 5), 3);
        CHECK.due("instructions (the third step waited)", x.state(0, 6), 2);
        x.poke(0, Check.RAM, 0);
        x.reset(0);
        x.run(0, 1);
        CHECK.due("counts stay for ever", x.state(0, 5), 4);
        CHECK.due("traps", x.state(0, 7), 1);
        CHECK.due("instructions", x.state(0, 6), 2);
        CHECK.due("no mark", x.state(0, 8), -1);
        CHECK.due("code of a RUNNING one", x.state(0, 1), 0);
        CHECK.due("others", x.state(0, 9), -1);
        CHECK.due("others", x.state(0, -1), -1);
        CHECK.due("no such computer", x.state(1, 0), -2);
        x = Check.ran(5, "li t0,0x100000", "li t1,0x12343333", "sw t1,0(t0)");
        CHECK.due("OFF", x.state(0, 0), 1);
        CHECK.due("code", x.state(0, 1), 0x1234);
    }

    private static void counts() {
        CHECK.about("promise 39");
        RiscMonitor x = new RiscMonitor();
        x.computer(1, 1);
        x.computer(1, 1);
        x.picture(0);
        x.record(1, true);
        x.move(0);
        x.sign(0x6161616161616161L);
        CHECK.due("computers", x.count(0), 3);
        CHECK.due("pictures", x.count(1), 1);
        CHECK.due("signs", x.count(2), 8);
        CHECK.due("moves", x.count(3), 1);
        CHECK.due("records", x.count(4), 1);
        CHECK.due("others", x.count(5), -1);
        CHECK.due("others", x.count(-1), -1);
    }
}
