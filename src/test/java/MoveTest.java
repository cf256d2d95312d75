/** Promises 31 to 34: moves. */
public final class MoveTest {
    private static final Check CHECK = new Check();
    private static final long RAM = Check.RAM;

    public static void main(String[] args) {
        begins();
        rounds();
        losses();
        finishes();
        endings();
        CHECK.end();
    }

    private static RiscMonitor house() {
        return Check.house(2, 3, "la s0,0x80001100", "a: lr.w a1,(s0)", "sw a0,4(s0)", "addi a0,a0,1", "j a");
    }

    private static void begins() {
        CHECK.about("promise 31");
        RiscMonitor x = house();
        CHECK.due("no such computer", x.move(1), -2);
        CHECK.due("move", x.move(0), 1);
        CHECK.due("MOVED", x.state(1, 0), 3);
        CHECK.due("the old one is RUNNING", x.state(0, 0), 0);
        CHECK.due("harts", x.state(1, 2), 2);
        CHECK.due("pages", x.state(1, 3), 3);
        CHECK.due("it is moved", x.move(0), -5);
        CHECK.due("not RUNNING", x.move(1), -5);
        CHECK.due("no run", x.run(1, 1), -5);
        CHECK.due("no go", x.go(1), -5);
        CHECK.due("moves", x.count(3), 1);
        x.computer(1, 1);
        x.computer(1, 1);
        CHECK.due("-5 ahead of NONE", x.move(0), -5);
        CHECK.due("there are four", x.move(2), -1);
        x.mark(2, 0, RAM);
        x.run(2, 1);
        CHECK.due("STOPPED", x.move(2), -5);
        CHECK.due("its RAM is 0", x.cell(1, RAM), 0);
    }

    private static void rounds() {
        CHECK.about("promise 32");
        RiscMonitor x = house();
        CHECK.due("no move", x.round(0, 1), -2);
        CHECK.due("no computer", x.round(1, 1), -2);
        x.move(0);
        CHECK.due("not by the old one's number", x.round(0, 1), -2);
        CHECK.due("0 pages", x.round(1, 0), -4);
        CHECK.due("17 pages", x.round(1, 17), -4);
        CHECK.due("the least first", x.round(1, 1), 2);
        CHECK.due("it came over", x.cell(1, RAM + 1), x.cell(0, RAM + 1));
        CHECK.due("all", x.round(1, 16), 0);
        CHECK.due("none", x.round(1, 16), 0);
        x.run(0, 8);
        CHECK.due("stored into: due again", x.round(1, 1), 0);
        x.poke(0, RAM, x.cell(0, RAM));
        x.poke(0, RAM + 8192, 7);
        CHECK.due("from outside, too", x.round(1, 1), 1);
        CHECK.due("not yet", x.cell(1, RAM + 8192), 0);
        x.poke(1, RAM + 8192, 5);
        CHECK.due("the new one's own", x.cell(1, RAM + 8192), 5);
        CHECK.due("the last", x.round(1, 1), 0);
        CHECK.due("it came over", x.cell(1, RAM + 8192), 7);
        x.poke(1, RAM + 8192, 5);
        CHECK.due("stores there make none due", x.round(1, 1), 0);
    }

    private static void losses() {
        CHECK.about("promise 33");
        RiscMonitor x = house();
        CHECK.due("no move", x.lose(0, 0), -2);
        x.move(0);
        CHECK.due("0", x.lose(1, 0), -4);
        CHECK.due("41", x.lose(1, 41), -4);
        CHECK.due("the second", x.lose(1, 2), 1);
        CHECK.due("told", x.lose(1, 2), 0);
        CHECK.due("40", x.lose(1, 40), 1);
        CHECK.due("one", x.round(1, 1), 2);
        CHECK.due("it is the first now", x.lose(1, 1), 0);
        CHECK.due("the second page is lost, the third comes", x.round(1, 3), 1);
        x.poke(0, RAM + 4096, 9);
        CHECK.due("not there", x.cell(1, RAM + 4096), 0);
        CHECK.due("sent again", x.round(1, 3), 0);
        CHECK.due("there", x.cell(1, RAM + 4096), 9);
        CHECK.due("the first of the next", x.lose(1, 1), 1);
        x.poke(0, RAM, 9);
        CHECK.due("lost", x.round(1, 3), 1);
        CHECK.due("as it was", x.cell(1, RAM), 0x17);
    }

    private static void finishes() {
        CHECK.about("promise 34");
        RiscMonitor x = house();
        CHECK.due("no move", x.finish(0, true), -2);
        x.move(0);
        x.round(1, 2);
        CHECK.due("broken off", x.finish(1, false), 0);
        CHECK.due("gone", x.state(1, 0), -2);
        CHECK.due("the old one goes on", x.run(0, 3), 3);
        x.key(0, 5);
        x.move(0);
        x.lose(1, 1);
        x.lose(1, 3);
        x.lose(1, 4);
        x.run(0, 2);
        x.picture(0);
        CHECK.due("three pages and three losses", x.finish(1, true), 6);
        CHECK.due("the old one is OFF", x.state(0, 0), 1);
        CHECK.due("code 0", x.state(0, 1), 0);
        CHECK.due("the new one is RUNNING", x.state(1, 0), 0);
        x.fork(0);
        CHECK.due("as it was", x.alike(1, 2), 1);
        CHECK.due("RESERVATION", x.hart(1, 0, 3), RAM + 4096 + 256);
        CHECK.due("no moves", x.count(3), 0);
        CHECK.due("it runs", x.run(1, 10), 10);
        CHECK.due("no move to it", x.round(1, 1), -2);
        x = house();
        x.move(0);
        x.round(1, 16);
        CHECK.due("none was due", x.finish(1, true), 0);
        x = house();
        x.move(0);
        for (int k = 1; k <= 40; k++) {
            x.lose(1, k);
        }
        CHECK.due("40 losses", x.finish(1, true), 43);
        CHECK.due("all is there", x.cell(1, RAM), 0x17);
        x = house();
        x.move(0);
        x.mark(0, 0, RAM);
        x.run(0, 1);
        CHECK.due("STOPPED", x.state(0, 0), 2);
        x.finish(1, true);
        CHECK.due("OFF", x.state(0, 0), 1);
        CHECK.due("at no mark", x.state(0, 8), -1);
        CHECK.due("RUNNING", x.state(1, 0), 0);
    }

    private static void gone(String what, RiscMonitor x, int m) {
        CHECK.due(what + ": the new one is gone", x.state(1, 0), -2);
        CHECK.due(what + ": no moves", x.count(3), 0);
        CHECK.due(what + ": the old one", x.state(0, 0), m);
    }

    private static void endings() {
        CHECK.about("promise 34, ends");
        RiscMonitor x = house();
        x.move(0);
        CHECK.due("drop the old one", x.drop(0), 1);
        gone("dropped", x, -2);
        x = house();
        x.move(0);
        x.drop(1);
        gone("the new one dropped", x, 0);
        CHECK.due("moved again", x.move(0), 1);
        CHECK.due("reset the old one", x.reset(0), 1);
        gone("reset", x, 0);
        x.move(0);
        CHECK.due("reset the new one", x.reset(1), 1);
        gone("the new one reset", x, 0);
        x.picture(0);
        x.move(0);
        x.restore(0, 0);
        gone("restored", x, 0);
        x.move(0);
        x.restore(1, 0);
        gone("the new one restored", x, 0);
        x.record(0, true);
        x.move(0);
        x.back(0, 0);
        gone("BACK", x, 0);
        x.move(0);
        x.record(1, true);
        x.back(1, 0);
        gone("the new one BACK", x, 0);
        x = Check.house(1, 1, "li s0,0x100000", "li a0,0x5555", "sw a0,0(s0)");
        x.move(0);
        x.run(0, 4);
        CHECK.due("still there", x.state(1, 0), 3);
        x.run(0, 1);
        gone("OFF", x, 1);
        x = Check.house(1, 1, "li s0,0x100000", "li a0,0x7777", "sw a0,0(s0)");
        x.move(0);
        x.run(0, 5);
        CHECK.due("a RESET by POWER doesn't", x.state(1, 0), 3);
    }
}
