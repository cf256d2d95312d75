/** Term 9, promises 22 to 26 and 30: all that a picture has, and nothing else. */
public final class PictureEdgesTest {
    private static final Check CHECK = new Check();
    private static final long RAM = Check.RAM;
    /** A loop that changes each device, RAM, sectors, output, control registers and RESERVATIONS as it goes. */
    private static final String[] BUSY = {"la s0,0x10000000", "la s1,0x10001000", "la s2,0x10002000", "la s3,0xc200000", "la s4,0x2000000",
            "la s5,0x10004000", "la s6,0x80001000", "la s7,0x10003000",
        "l: lbu a0,0(s0)", "sb a0,0(s0)", "sb a4,1(s0)", "ld a1,0(s5)", "sd a1,0(s6)", "andi a2,a1,31", "sd a2,0(s1)", "sd s6,8(s1)",
                "li a3,2", "sw a3,16(s1)", "sd a1,0(s2)", "sd s6,8(s2)", "sd a2,16(s2)", "sw a3,24(s2)",
        "sw a4,0(s4)", "lw a5,4(s3)", "sw a5,4(s3)", "sw a2,0(s3)", "sd a2,8(s7)", "csrw 0x340,a1", "csrw 0x306,a1", "lr.d a6,(s6)",
                "addi a4,a4,1", "j l"};

    public static void main(String[] args) {
        numbers();
        againFromPicture();
        onlyOneDiffers();
        kinds();
        restoreOthers();
        restoreEnds();
        forks();
        changes();
        CHECK.end();
    }

    private static void numbers() {
        CHECK.about("promise 22: the least that none has");
        RiscMonitor x = Check.house(1, 1, "nop");
        for (int s = 0; s < 6; s++) {
            CHECK.due("picture", x.picture(0), s);
            CHECK.due("pictures", x.count(1), s + 1);
        }
        CHECK.due("a seventh", x.picture(0), -1);
        for (int s : new int[] {5, 0, 3}) {
            CHECK.due("forget", x.forget(s), 1);
            CHECK.due("forget again", x.forget(s), -2);
        }
        CHECK.due("picture", x.picture(0), 0);
        CHECK.due("picture", x.picture(0), 3);
        CHECK.due("picture", x.picture(0), 5);
        CHECK.due("a seventh", x.picture(0), -1);
    }

    private static RiscMonitor busy(int steps) {
        RiscMonitor x = Check.house(2, 3, BUSY);
        for (int i = 1; i <= 16; i++) {
            x.key(0, 16 * i - 1);
        }
        x.wire(0, 4, true);
        x.run(0, steps);
        return x;
    }

    /** From a picture the same steps lead to the same computer, whatever came between. */
    private static void againFromPicture() {
        CHECK.about("promise 24: as it was");
        for (int steps = 1; steps < 160; steps += 13) {
            RiscMonitor x = busy(60 + steps);
            x.picture(0);
            x.fork(0);
            CHECK.due("a FORK is alike", x.alike(0, 1), 1);
            x.run(0, 77);
            x.picture(0);
            x.key(0, 5);
            x.wire(0, 5, true);
            x.wire(0, 4, false);
            x.time(0, 12345);
            x.poke(0, RAM + 0x2fff, 9);
            x.run(0, 50);
            CHECK.due("restore", x.restore(0, 0), 1);
            CHECK.due("alike the fork", x.alike(0, 1), 1);
            CHECK.due("no page is changed", x.changed(0, 0), 0);
            x.run(0, 77);
            x.run(1, 77);
            CHECK.due("the same steps", x.alike(0, 1), 1);
            x.restore(1, 1);
            CHECK.due("alike the second picture", x.alike(0, 1), 1);
        }
    }

    /** Two computers with the same RAM whose keys 0 and 1 made one thing alone differ; a0, a1 are 0 at the end. */
    private static RiscMonitor pair(String... lines) {
        RiscMonitor x = new RiscMonitor();
        for (int m = 0; m < 2; m++) {
            x.computer(1, 2);
            Check.make(x, m, RAM, "la s0,0x10000000", "la s1,0x80001000", "lbu a0,0(s0)", String.join("\n", lines), "li a0,0", "li a1,0", "e: j e");
        }
        x.key(0, 0);
        x.key(1, 1);
        x.run(0, 40);
        x.run(1, 40);
        CHECK.due("the same place", x.hart(0, 0, 1), x.hart(1, 0, 1));
        return x;
    }

    private static void differ(String what, int alike, String... lines) {
        RiscMonitor x = pair(lines);
        CHECK.due(what, x.alike(0, 1), alike);
        CHECK.due(what + ", the other way round", x.alike(1, 0), alike);
        x.picture(0);
        x.restore(1, 0);
        CHECK.due(what + ", restored", x.alike(0, 1), 1);
    }

    private static void onlyOneDiffers() {
        CHECK.about("promise 30: all that a picture would have");
        differ("nothing", 1, "nop");
        differ("a byte of output", 0, "sb a0,0(s0)");
        differ("a register", 0, "mv t6,a0");
        differ("x1", 0, "mv ra,a0");
        differ("a byte of RAM", 0, "sb a0,0(s1)");
        differ("the last byte of RAM", 0, "la t0,0x80001fff", "sb a0,0(t0)", "la t0,0");
        differ("mscratch", 0, "csrw 0x340,a0");
        differ("vsatp", 0, "csrw 0x280,a0");
        differ("MSIP", 0, "la t0,0x2000000", "sw a0,0(t0)");
        differ("MTIMECMP", 0, "la t0,0x2004000", "sd a0,0(t0)");
        differ("a priority", 0, "la t0,0xc00001c", "sw a0,0(t0)");
        differ("a threshold", 0, "la t0,0xc201000", "sw a0,0(t0)");
        differ("enabled ones", 0, "slli a0,a0,7", "la t0,0xc002080", "sw a0,0(t0)");
        differ("the serial line's +1", 0, "sb a0,1(s0)");
        differ("the disk's number", 0, "la t0,0x10001000", "sd a0,0(t0)");
        differ("the disk's place", 0, "la t0,0x10001000", "sd a0,8(t0)");
        differ("the copier's from", 0, "la t0,0x10002000", "sd a0,0(t0)");
        differ("the copier's to", 0, "la t0,0x10002000", "sd a0,8(t0)");
        differ("the copier's count", 0, "la t0,0x10002000", "sd a0,16(t0)");
        differ("a device's status", 0, "la t0,0x10001000", "sd s1,8(t0)", "addi a0,a0,2", "sw a0,16(t0)");
        differ("the DOG", 0, "slli a0,a0,20", "la t0,0x10003000", "sd a0,0(t0)");
        differ("CHANCE", 0, "la t0,0x10004000", "sd a0,0(t0)");
        differ("a sector", 0, "sb a0,0(s1)", "la t0,0x10001000", "sd s1,8(t0)", "li t1,2", "sw t1,16(t0)", "sb zero,0(s1)");
        differ("a RESERVATION's size", 0, "bnez a0,b", "lr.w a1,(s1)", "j c", "b: lr.d a1,(s1)", "j c", "c: nop");
        differ("a RESERVATION's place", 0, "slli a0,a0,3", "add s1,s1,a0", "lr.d a1,(s1)", "la s1,0");
        differ("whether there is one", 0, "bnez a0,b", "lr.w a1,(s1)", "j c", "b: lw a1,(s1)".replace("(s1)", "0(s1)"), "j c", "c: nop");
        differ("a RESERVATION that is gone by sc", 1, "slli a0,a0,3", "add s1,s1,a0", "lr.d a1,(s1)", "la s1,0x80001040", "sc.w a1,zero,(s1)");
        differ("misa", 1, "csrw 0x301,a0");
        differ("a control register that is read alone in its bits", 1, "csrw 0x607,a0");
        waits();
        goneFromOutside();
        RiscMonitor x = pair("nop");
        for (int s = 4; s <= 7; s++) {
            x.wire(0, s, true);
            CHECK.due("wire " + s, x.alike(0, 1), 0);
            x.wire(1, s, true);
            CHECK.due("both", x.alike(0, 1), 1);
        }
        x.key(0, 0);
        CHECK.due("a key of 0", x.alike(0, 1), 0);
        x.key(1, 1);
        CHECK.due("another key", x.alike(0, 1), 0);
        x.time(1, 99);
        x.restore(1, x.picture(0));
        CHECK.due("restored", x.alike(0, 1), 1);
        x.time(1, 99);
        CHECK.due("MTIME", x.alike(0, 1), 0);
    }

    /** Both come to the same place in the same step, one of them by wfi. */
    private static void waits() {
        RiscMonitor x = new RiscMonitor();
        for (int m = 0; m < 2; m++) {
            x.computer(1, 1);
            Check.make(x, m, RAM, "la s0,0x10000000", "lbu a0,0(s0)", "bnez a0,b", "li a0,0", "wfi", "e: j e", "b: li a0,0", "j e");
            x.key(m, m);
            x.run(m, 6);
        }
        CHECK.due("the same place", x.hart(0, 0, 1), x.hart(1, 0, 1));
        CHECK.due("one waits", x.hart(0, 0, 2) - x.hart(1, 0, 2), 1);
        CHECK.due("who waits", x.alike(0, 1), 0);
    }

    private static void goneFromOutside() {
        RiscMonitor x = pair("slli a0,a0,3", "add s1,s1,a0", "lr.d a1,(s1)", "la s1,0");
        CHECK.due("RESERVATIONS of two places", x.alike(0, 1), 0);
        x.poke(0, RAM + 4096, 0);
        CHECK.due("one is gone", x.alike(0, 1), 0);
        x.poke(1, RAM + 4096, 0);
        CHECK.due("both are gone", x.alike(0, 1), 1);
    }

    private static void kinds() {
        CHECK.about("promise 30: RUNNING or OFF with its CODE");
        RiscMonitor x = new RiscMonitor();
        for (int m = 0; m < 3; m++) {
            x.computer(1, 1);
            Check.make(x, m, RAM, "la s0,0x10000000", "la s1,0x100000", "lbu a0,0(s0)", "li a1,0x3333", "slli a0,a0,16", "add a1,a1,a0",
                    "li a0,0", "sw a1,0(s1)", "nop");
            x.key(m, m == 2 ? 1 : 7);
            x.run(m, 10);
        }
        CHECK.due("RUNNING both", x.alike(0, 1), 1);
        x.run(0, 1);
        CHECK.due("OFF with 7", x.state(0, 1), 7);
        CHECK.due("OFF and RUNNING", x.alike(0, 1), 0);
        x.run(1, 1);
        CHECK.due("OFF both", x.alike(0, 1), 1);
        x.run(2, 1);
        CHECK.due("another CODE", x.alike(0, 2), 0);
        CHECK.due("a picture of one that is OFF", x.picture(0), 0);
        x.reset(0);
        CHECK.due("RUNNING", x.state(0, 0), 0);
        x.restore(0, 0);
        CHECK.due("OFF again", x.state(0, 0), 1);
        CHECK.due("its CODE", x.state(0, 1), 7);
        CHECK.due("a fork of it", x.fork(0), 3);
        CHECK.due("OFF", x.state(3, 0), 1);
        CHECK.due("its CODE", x.state(3, 1), 7);
        CHECK.due("it doesn't run", x.run(3, 1), -5);
    }

    private static void restoreOthers() {
        CHECK.about("promise 24: 0 when it has other harts or pages");
        for (int harts = 1; harts <= 3; harts++) {
            for (int pages = 1; pages <= 3; pages++) {
                RiscMonitor x = Check.house(2, 2, "nop");
                x.picture(0);
                x.drop(0);
                x.computer(harts, pages);
                x.run(0, 3);
                x.record(0, true);
                boolean same = harts == 2 && pages == 2;
                CHECK.due("restore of " + harts + ", " + pages, x.restore(0, 0), same ? 1 : 0);
                CHECK.due("MTIME", x.control(0, 0, 0xc01), same ? 0 : 3);
                CHECK.due("its record", x.count(4), same ? 0 : 1);
                CHECK.due("changed", x.changed(0, 0), pages != 2 ? -1 : same ? 0 : 1);
            }
        }
    }

    private static void restoreEnds() {
        CHECK.about("term 9: but the BOOK, counts, trace, marks");
        RiscMonitor x = Check.house(1, 2, "nop", "nop", "ecall");
        x.picture(0);
        x.mark(0, 0, RAM + 4);
        x.run(0, 5);
        CHECK.due("STOPPED", x.state(0, 0), 2);
        CHECK.due("in a block", x.hart(0, 0, 4), RAM + 4);
        CHECK.due("restore", x.restore(0, 0), 1);
        CHECK.due("RUNNING", x.state(0, 0), 0);
        CHECK.due("at no mark", x.state(0, 8), -1);
        CHECK.due("its book is empty", x.block(0, 0), 0);
        CHECK.due("MADE stays", x.block(0, 2), 1);
        CHECK.due("nothing is DROPPED", x.block(0, 3), 0);
        CHECK.due("in none", x.hart(0, 0, 4), -1);
        CHECK.due("steps stay", x.state(0, 5), 1);
        CHECK.due("instructions stay", x.state(0, 6), 1);
        CHECK.due("trace stays", x.trace(0, 0, 1), RAM);
        CHECK.due("marks stay", x.run(0, 5), 1);
        CHECK.due("STOPPED", x.state(0, 8), 0);
        x.go(0);
        x.run(0, 2);
        CHECK.due("traps", x.state(0, 7), 1);
        x.restore(0, 0);
        CHECK.due("traps stay", x.state(0, 7), 1);
    }

    private static void forks() {
        CHECK.about("promise 25");
        RiscMonitor x = busy(100);
        x.mark(0, 0, RAM);
        x.record(0, true);
        x.picture(0);
        x.drop(0);
        CHECK.due("the picture stays", x.count(1), 1);
        for (int m = 0; m < 4; m++) {
            CHECK.due("fork", x.fork(0), m);
            CHECK.due("harts", x.state(m, 2), 2);
            CHECK.due("pages", x.state(m, 3), 3);
            CHECK.due("steps", x.state(m, 5), 0);
            CHECK.due("no mark", x.unmark(m, 0), -2);
            CHECK.due("alike", x.alike(0, m), 1);
            CHECK.due("it doesn't record", x.count(4), 0);
            CHECK.due("no blocks", x.block(m, 0), 0);
            CHECK.due("no trace", x.trace(m, 0, 0), -1);
        }
        CHECK.due("there are four", x.fork(0), -1);
        x.run(1, 10);
        CHECK.due("it is a computer by itself", x.alike(0, 1), 0);
        x.forget(0);
        CHECK.due("the others stay", x.alike(2, 3), 1);
    }

    private static void changes() {
        CHECK.about("promise 26");
        RiscMonitor x = new RiscMonitor();
        x.computer(1, 16);
        x.picture(0);
        for (int page = 0; page < 16; page++) {
            x.poke(0, RAM + page * 4096L, 1);
            CHECK.due("its first byte", x.changed(0, 0), page + 1);
            x.poke(0, RAM + page * 4096L, 0);
            CHECK.due("as it was", x.changed(0, 0), page);
            x.poke(0, RAM + page * 4096L + 4095, 128);
            CHECK.due("its last byte", x.changed(0, 0), page + 1);
        }
        x.restore(0, 0);
        CHECK.due("restored", x.changed(0, 0), 0);
        x.key(0, 1);
        x.run(0, 5);
        CHECK.due("bytes alone", x.changed(0, 0), 0);
        x.computer(4, 16);
        CHECK.due("harts don't matter", x.changed(1, 0), 0);
        x.computer(1, 15);
        CHECK.due("pages do", x.changed(2, 0), -1);
    }
}
