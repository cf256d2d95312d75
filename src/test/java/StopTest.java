/** Promises 35 to 38: marks, stops and the trace. */
public final class StopTest {
    private static final Check CHECK = new Check();
    private static final long RAM = Check.RAM;

    public static void main(String[] args) {
        marks();
        stopsAtPlaces();
        stopsAtStores();
        goes();
        traces();
        CHECK.end();
    }

    private static void marks() {
        CHECK.about("promise 35");
        RiscMonitor x = Check.house(1, 1, "nop");
        CHECK.due("no such computer", x.mark(1, 5, 0), -2);
        CHECK.due("kind 2", x.mark(0, 2, RAM), -4);
        CHECK.due("kind -1", x.mark(0, -1, RAM), -4);
        CHECK.due("no RAM", x.mark(0, 1, RAM + 4096), -4);
        CHECK.due("no RAM", x.mark(0, 1, RAM - 1), -4);
        CHECK.due("any pc", x.mark(0, 0, -1), 0);
        for (int k = 1; k < 8; k++) {
            CHECK.due("mark", x.mark(0, 1, RAM + 4095), k);
        }
        CHECK.due("a ninth", x.mark(0, 0, 0), -1);
        CHECK.due("-4 ahead of NONE", x.mark(0, 2, 0), -4);
        CHECK.about("promise 36");
        CHECK.due("no such computer", x.unmark(1, 0), -2);
        CHECK.due("no such mark", x.unmark(0, 8), -2);
        CHECK.due("no such mark", x.unmark(0, -1), -2);
        CHECK.due("unmark", x.unmark(0, 2), 1);
        CHECK.due("again", x.unmark(0, 2), -2);
        CHECK.about("promise 35");
        CHECK.due("the least that none has", x.mark(0, 0, 0), 2);
    }

    private static void stopsAtPlaces() {
        CHECK.about("promise 35, pc");
        RiscMonitor x = Check.house(2, 1, "nop", "nop", "wfi", "nop");
        x.mark(0, 0, RAM + 4);
        x.mark(0, 0, RAM + 4);
        x.mark(0, 0, RAM + 12);
        CHECK.due("up to the mark", x.run(0, 2), 2);
        CHECK.due("not before a run", x.state(0, 0), 0);
        CHECK.due("a run", x.run(0, 5), 0);
        CHECK.due("STOPPED", x.state(0, 0), 2);
        CHECK.due("the first mark", x.state(0, 8), 0);
        CHECK.due("no step was done", x.state(0, 5), 2);
        CHECK.due("no run", x.run(0, 5), -5);
        CHECK.due("unmark leaves it", x.unmark(0, 0), 1);
        CHECK.due("STOPPED still", x.state(0, 8), 0);
        x.go(0);
        CHECK.due("hart 1 is there, too", x.run(0, 5), 1);
        CHECK.due("the other mark", x.state(0, 8), 1);
        x.go(0);
        CHECK.due("a hart that waits doesn't stop", x.run(0, 7), 7);
    }

    private static void stopsAtStores() {
        CHECK.about("promise 35, stores");
        RiscMonitor x = Check.house(1, 2, "la s0,0x80001000", "sd s0,0(s0)", "lw a0,4(s0)", "sc.w a0,a0,(s0)", "amoadd.w a0,zero,(s0)",
                "li s1,0x10002000", "sd s0,8(s1)", "li a1,64", "sd a1,16(s1)", "li a1,2", "sw a1,24(s1)", "sb a1,7(s0)", "nop");
        x.mark(0, 1, RAM + 4096 + 8);
        x.mark(0, 1, RAM + 4096 + 7);
        x.mark(0, 1, RAM + 4096);
        CHECK.due("behind the store", x.run(0, 99), 3);
        CHECK.due("the first of several", x.state(0, 8), 1);
        CHECK.due("it is stored", x.cell(0, RAM + 4096 + 3), 0x80);
        x.go(0);
        CHECK.due("not by a load, nor by sc that fails", x.run(0, 99), 3);
        CHECK.due("by amoadd of 0", x.state(0, 8), 2);
        x.poke(0, RAM + 4096, 1);
        CHECK.due("go", x.go(0), 1);
        CHECK.due("not by devices", x.run(0, 99), 8);
        CHECK.due("the copier came there", x.cell(0, RAM + 4096 + 60), x.cell(0, RAM + 4096));
        CHECK.due("by sb", x.state(0, 8), 1);
        x.go(0);
        x.mark(0, 0, RAM + 4 * 14);
        CHECK.due("a poke stops nothing", x.poke(0, RAM + 4096, 3), 1);
        CHECK.due("RUNNING", x.state(0, 0), 0);
    }

    private static void goes() {
        CHECK.about("promise 37");
        RiscMonitor x = Check.house(1, 1, "nop", "j 0x80000000");
        CHECK.due("no such computer", x.go(1), -2);
        CHECK.due("not STOPPED", x.go(0), -5);
        x.mark(0, 0, RAM);
        CHECK.due("at once", x.run(0, 10), 0);
        CHECK.due("go", x.go(0), 1);
        CHECK.due("RUNNING", x.state(0, 0), 0);
        CHECK.due("at no mark", x.state(0, 8), -1);
        CHECK.due("one round", x.run(0, 10), 2);
        x.go(0);
        x.reset(0);
        CHECK.due("reset ahead of the step", x.run(0, 10), 0);
        x.go(0);
        x.picture(0);
        x.restore(0, 0);
        CHECK.due("restored ahead of the step", x.run(0, 10), 0);
        x.reset(0);
        CHECK.due("reset: RUNNING", x.state(0, 0), 0);
        x.unmark(0, 0);
        CHECK.due("no mark", x.run(0, 10), 10);
    }

    private static void traces() {
        CHECK.about("promise 38");
        RiscMonitor x = Check.house(2, 1, "nop", ".half 1", "ecall");
        CHECK.due("no such computer", x.trace(1, 0, 0), -2);
        CHECK.due("none yet", x.trace(0, 0, 0), -1);
        x.run(0, 5);
        CHECK.due("hart", x.trace(0, 0, 0), 0);
        CHECK.due("pc", x.trace(0, 0, 1), RAM + 6);
        CHECK.due("bits", x.trace(0, 0, 2), 0x73);
        CHECK.due("cause", x.trace(0, 0, 3), 11);
        CHECK.due("hart", x.trace(0, 1, 0), 1);
        CHECK.due("bits", x.trace(0, 1, 2), 1);
        CHECK.due("no trap", x.trace(0, 1, 3), -1);
        CHECK.due("others", x.trace(0, 0, 4), -1);
        CHECK.due("others", x.trace(0, 0, -1), -1);
        CHECK.due("the oldest", x.trace(0, 4, 1), RAM);
        CHECK.due("no sixth", x.trace(0, 5, 1), -1);
        CHECK.due("-1", x.trace(0, -1, 1), -1);
        x.run(0, 2);
        CHECK.due("not fetched", x.trace(0, 0, 2), 0);
        CHECK.due("its cause", x.trace(0, 0, 3), 1);
        x = Check.house(1, 1, "a: lui a0,0x80000", "j a");
        x.run(0, 41);
        CHECK.due("the 32nd", x.trace(0, 31, 1), RAM + 4);
        CHECK.due("no 33rd", x.trace(0, 32, 1), -1);
        CHECK.due("bits without sign", x.trace(0, 0, 2), 0x80000537L);
        x = Check.ran(3, "wfi");
        CHECK.due("waiting is none", x.trace(0, 1, 1), -1);
    }
}
