/** Term 11, promises 31 to 34: which pages are due, which are lost, what comes over, and what breaks a move off. */
public final class MoveEdgesTest {
    private static final Check CHECK = new Check();
    private static final long RAM = Check.RAM;
    private static final long PAGE = 4096;

    public static void main(String[] args) {
        roundsOfAll();
        dueAgain();
        dueByDevices();
        losses();
        lossesFromTheTelling();
        lossesInFinish();
        comesOver();
        againBehindFinish();
        brokenOff();
        broken();
        notBroken();
        twoMoves();
        seats();
        CHECK.end();
    }

    /** A computer of so many pages, each with its number at its end, and a loop at RAM's beginning. */
    private static RiscMonitor house(int pages, String... lines) {
        RiscMonitor x = Check.house(1, pages, lines.length > 0 ? String.join("\n", lines) : "a: addi a0,a0,1\nj a");
        for (int page = 0; page < pages; page++) {
            x.poke(0, last(page), page + 1);
        }
        return x;
    }

    private static long last(int page) {
        return RAM + page * PAGE + 4095;
    }

    /** Which pages have come over: a bit each. */
    private static long come(RiscMonitor x, int pages) {
        long sum = 0;
        for (int page = 0; page < pages; page++) {
            sum |= x.cell(1, last(page)) == x.cell(0, last(page)) ? 1L << page : 0;
        }
        return sum;
    }

    private static void roundsOfAll() {
        CHECK.about("promise 32: at most n pages, the least first");
        for (int n : new int[] {1, 2, 3, 5, 15, 16}) {
            int pages = n == 1 ? 12 : 16;
            RiscMonitor x = house(pages);
            CHECK.due("move", x.move(0), 1);
            CHECK.due("none has come", come(x, pages), 0);
            int sent = 0;
            for (int round = 0; round < 17 && sent < pages; round++) {
                sent = Math.min(pages, sent + n);
                CHECK.due("round of " + n, x.round(1, n), pages - sent);
                CHECK.due("which have come", come(x, pages), (1L << sent) - 1);
            }
            CHECK.due("one more", x.round(1, n), 0);
            CHECK.due("finish", x.finish(1, true), 0);
        }
        for (int pages : new int[] {1, 2, 15, 16}) {
            RiscMonitor x = house(pages);
            x.move(0);
            CHECK.due("all are due at first", x.round(1, 1), pages - 1);
            CHECK.due("finish sends the others", x.finish(1, true), pages - 1);
            CHECK.due("all have come", come(x, pages), (1L << pages) - 1);
        }
    }

    private static void dueAgain() {
        CHECK.about("term 11: a page that is stored into, once sent, is due again");
        String[] stores = {"sb a0,0(s0)", "sh a0,0(s0)", "sw a0,0(s0)", "sd a0,0(s0)", "amoadd.w a0,a0,(s0)", "amoswap.d a0,a0,(s0)",
                "sc.w a1,a0,(s0)"};
        for (String line : stores) {
            RiscMonitor x = house(3, "la s0,0x80001008", "lr.w a0,(s0)", line, "j 0x80000010");
            x.move(0);
            CHECK.due("all", x.round(1, 16), 0);
            x.run(0, 3);
            CHECK.due("not yet", x.round(1, 16), 0);
            x.run(0, 1);
            x.lose(1, 1);
            CHECK.due(line + ": due", x.round(1, 16), 1);
            CHECK.due("sent again", x.round(1, 16), 0);
        }
        RiscMonitor x = house(3, "la s0,0x80001008", "sc.w a1,a0,(s0)", "lw a0,0(s0)", "j 0x8000000c");
        x.move(0);
        x.round(1, 16);
        x.run(0, 9);
        x.lose(1, 1);
        CHECK.due("an sc that stores nothing, and a load", x.round(1, 16), 0);
        x.poke(0, RAM + 2 * PAGE, 0);
        CHECK.due("poke() of the same byte", x.round(1, 16), 1);
        CHECK.due("sent again", x.round(1, 16), 0);
        x.lose(1, 1);
        x.lose(1, 2);
        Check.make(x, 0, RAM + PAGE - 1, ".byte 1,2");
        CHECK.due("assemble() into two pages", x.round(1, 16), 2);
        CHECK.due("sent again", x.round(1, 16), 0);
        x = house(3);
        x.move(0);
        x.poke(0, RAM, 0x13);
        x.poke(0, RAM, 0x13);
        CHECK.due("stored into ahead of its sending: due once", x.round(1, 1), 2);
        CHECK.due("then", x.round(1, 16), 0);
        x.poke(1, RAM + PAGE, 9);
        Check.make(x, 1, RAM, "nop");
        CHECK.due("what comes to the new one makes none due", x.round(1, 16), 0);
        CHECK.due("and stays", x.cell(1, RAM + PAGE), 9);
        CHECK.due("finish", x.finish(1, true), 0);
        CHECK.due("of RAM pages that are sent alone", x.cell(1, RAM + PAGE), 9);
    }

    private static void dueByDevices() {
        CHECK.about("term 11: stored into by devices");
        String[][] rows = {{"0x10001000", "1", "16", "0x80000fc1"}, {"0x10001000", "2", "16", "0x80000fc1"}, {"0x10002000", "2", "24", "0x80000fff"}};
        int[] due = {2, 0, 2};
        for (int i = 0; i < rows.length; i++) {
            RiscMonitor x = house(3, "la s0," + rows[i][0], "la a0," + rows[i][3], "sd a0,8(s0)", "li a1,2",
                    i == 2 ? "sd a1,16(s0)" : "nop", "li a2," + rows[i][1], "sw a2," + rows[i][2] + "(s0)", "j 0x80000024");
            x.move(0);
            x.round(1, 16);
            x.run(0, 20);
            x.lose(1, 1);
            x.lose(1, 2);
            CHECK.due("device " + i, x.round(1, 16), due[i]);
        }
    }

    private static void losses() {
        CHECK.about("promise 33: the k-th page to be sent");
        for (int k = 1; k <= 16; k++) {
            RiscMonitor x = house(16);
            x.move(0);
            CHECK.due("lose", x.lose(1, k), 1);
            CHECK.due("told", x.lose(1, k), 0);
            CHECK.due("a round of all: it isn't sent twice in one", x.round(1, 16), 1);
            CHECK.due("it isn't there", come(x, 16), 0xffff & ~(1 << k - 1));
            CHECK.due("then", x.round(1, 1), 0);
            CHECK.due("all are there", come(x, 16), 0xffff);
        }
        RiscMonitor x = house(3);
        x.move(0);
        for (int k = 1; k <= 40; k++) {
            CHECK.due("lose " + k, x.lose(1, k), 1);
        }
        for (int k : new int[] {0, 41, -1}) {
            CHECK.due("lose " + k, x.lose(1, k), -4);
        }
        for (int round = 0; round < 13; round++) {
            CHECK.due("all are lost", x.round(1, 16), 3);
        }
        CHECK.due("the 40th is lost", x.round(1, 1), 3);
        CHECK.due("the 41st isn't", x.round(1, 1), 2);
        CHECK.due("nor the others", x.round(1, 16), 0);
    }

    private static void lossesFromTheTelling() {
        CHECK.about("term 11: from the telling on");
        RiscMonitor x = house(16);
        x.move(0);
        x.round(1, 5);
        CHECK.due("lose the second from now", x.lose(1, 2), 1);
        x.round(1, 3);
        CHECK.due("page 6 is lost", come(x, 16), 0xff & ~(1 << 6));
        CHECK.due("lose the third from now", x.lose(1, 3), 1);
        CHECK.due("page 6 comes first, it is the least", x.round(1, 2), 7);
        CHECK.due("pages 6 and 8", come(x, 16), 0x1ff);
        CHECK.due("now it is the first", x.lose(1, 1), 0);
        CHECK.due("the third is free again", x.lose(1, 3), 1);
        CHECK.due("pages 9 and 11 are lost", x.round(1, 7), 2);
        CHECK.due("which have come", come(x, 16), 0xffff & ~(1 << 9 | 1 << 11));
        CHECK.due("40 from now", x.lose(1, 40), 1);
        x.round(1, 1);
        CHECK.due("it is the 39th", x.lose(1, 39), 0);
        CHECK.due("the 40th isn't told", x.lose(1, 40), 1);
    }

    private static void lossesInFinish() {
        CHECK.about("promise 34: how many pages were sent for that");
        int[][] rows = {{1}, {2}, {3}, {4}, {1, 2, 3}, {1, 4}, {1, 4, 5}, {4, 5}, {1, 3, 4, 6, 7}};
        int[] sent = {4, 4, 4, 3, 6, 5, 6, 3, 8};
        for (int i = 0; i < rows.length; i++) {
            RiscMonitor x = house(3);
            x.move(0);
            for (int k : rows[i]) {
                x.lose(1, k);
            }
            CHECK.due("losses " + i, x.finish(1, true), sent[i]);
            CHECK.due("all are there", come(x, 3), 7);
        }
        for (int pages : new int[] {1, 16}) {
            RiscMonitor x = house(pages);
            x.move(0);
            for (int k = 1; k <= 40; k++) {
                x.lose(1, k);
            }
            CHECK.due("40 losses", x.finish(1, true), 40 + pages);
            CHECK.due("all are there", come(x, pages), (1L << pages) - 1);
            CHECK.due("RUNNING", x.state(1, 0), 0);
        }
    }

    private static void comesOver() {
        CHECK.about("term 11: FINISHED");
        RiscMonitor x = Check.house(2, 2, "la s0,0x10000000", "la s1,0x80001040", "sb s1,0(s0)", "lr.d a0,(s1)", "csrw 0x340,s1",
                "la s2,0x10001000", "sd s1,8(s2)", "li a1,2", "sw a1,16(s2)", "la s3,0x10004000", "ld a2,0(s3)", "wfi");
        x.key(0, 9);
        x.wire(0, 5, true);
        x.move(0);
        x.round(1, 1);
        x.key(1, 3);
        x.wire(1, 6, true);
        x.time(1, 999);
        x.mark(1, 0, RAM + 8);
        x.mark(0, 0, RAM + 12);
        x.run(0, 33);
        x.go(0);
        x.run(0, 20);
        x.picture(0);
        x.fork(0);
        long steps = x.state(0, 5);
        CHECK.due("the page that is due", x.finish(1, true), 1);
        CHECK.due("all came over", x.alike(1, 2), 1);
        CHECK.due("the old one is OFF", x.state(0, 0), 1);
        CHECK.due("code 0", x.state(0, 1), 0);
        CHECK.due("at no mark", x.state(0, 8), -1);
        CHECK.due("its steps stay", x.state(0, 5), steps);
        CHECK.due("the new one's are its own", x.state(1, 5), 0);
        CHECK.due("its marks are its own", x.unmark(1, 0), 1);
        CHECK.due("those of the old one don't come", x.unmark(1, 1), -2);
        CHECK.due("the old one's stay", x.unmark(0, 0), 1);
        CHECK.due("its trace is its own", x.trace(1, 0, 0), -1);
        CHECK.due("no moves", x.count(3), 0);
        CHECK.due("the old one doesn't run", x.run(0, 1), -5);
        CHECK.due("the new one does", x.run(1, 5), 5);
        CHECK.due("it may be moved", x.move(1), 3);
        x.reset(0);
        CHECK.due("the old one may be reset", x.state(0, 0), 0);
    }

    private static void againBehindFinish() {
        CHECK.about("term 11: behind a move that is FINISHED");
        RiscMonitor x = house(2);
        x.move(0);
        x.finish(1, true);
        CHECK.due("OFF", x.move(0), -5);
        x.reset(0);
        CHECK.due("the old one may be moved again", x.move(0), 2);
        CHECK.due("the new one, too", x.move(1), 3);
        CHECK.due("all are due", x.round(3, 1), 1);
        CHECK.due("all are due", x.round(2, 1), 1);
    }

    private static void brokenOff() {
        CHECK.about("term 11: BROKEN OFF");
        RiscMonitor x = house(3);
        x.picture(0);
        x.run(0, 3);
        x.move(0);
        x.round(1, 2);
        x.run(0, 2);
        CHECK.due("finish", x.finish(1, false), 0);
        CHECK.due("the new one is gone", x.state(1, 0), -2);
        CHECK.due("computers", x.count(0), 1);
        CHECK.due("moves", x.count(3), 0);
        CHECK.due("the old one goes on", x.run(0, 4), 4);
        CHECK.due("again: all are due", x.move(0), 1);
        CHECK.due("none has come", come(x, 3), 0);
        CHECK.due("a loss of the first move is forgotten", x.lose(1, 1), 1);
        x.finish(1, false);
        x.move(0);
        CHECK.due("all come", x.round(1, 3), 0);
        x.finish(1, true);
        CHECK.due("the new one has all", x.changed(1, 0), 0);
    }

    private static RiscMonitor moving(String... lines) {
        RiscMonitor x = house(2, lines);
        x.picture(0);
        x.record(0, true);
        x.run(0, 3);
        x.move(0);
        x.record(1, true);
        x.round(1, 1);
        return x;
    }

    private static void ended(String what, RiscMonitor x, long old) {
        CHECK.due(what + ": the new one", x.state(1, 0), -2);
        CHECK.due(what + ": the old one", x.state(0, 0), old);
        CHECK.due(what + ": moves", x.count(3), 0);
        CHECK.due(what + ": round", x.round(1, 1), -2);
        if (old == 0) {
            CHECK.due(what + ": it may be moved again", x.move(0), 1);
        }
    }

    private static void broken() {
        CHECK.about("term 11: the move ends by itself");
        RiscMonitor x = moving();
        CHECK.due("drop", x.drop(0), 1);
        ended("drop", x, -2);
        x = moving();
        CHECK.due("drop", x.drop(1), 1);
        ended("drop of the new one", x, 0);
        x = moving();
        CHECK.due("reset", x.reset(0), 1);
        ended("reset", x, 0);
        x = moving();
        CHECK.due("reset", x.reset(1), 1);
        ended("reset of the new one", x, 0);
        CHECK.due("the old one's record stays", x.count(4), 1);
        x = moving();
        CHECK.due("restore", x.restore(0, 0), 1);
        ended("restore", x, 0);
        x = moving();
        CHECK.due("restore", x.restore(1, 0), 1);
        ended("restore of the new one", x, 0);
        CHECK.due("the old one's record stays", x.count(4), 1);
        for (int n = 0; n <= 3; n++) {
            x = moving();
            CHECK.due("back", x.back(0, n), 1);
            ended("back " + n, x, 0);
        }
        x = moving();
        CHECK.due("back", x.back(1, 0), 1);
        ended("back of the new one", x, 0);
        x = moving("la s0,0x100000", "li a0,0x5555", "sw a0,0(s0)");
        x.run(0, 1);
        CHECK.due("not yet", x.state(1, 0), 3);
        x.run(0, 1);
        ended("OFF", x, 1);
    }

    private static void notBroken() {
        CHECK.about("term 11: the move goes on");
        RiscMonitor x = moving();
        x.poke(0, RAM + PAGE, 1);
        x.poke(1, RAM + PAGE, 1);
        x.key(0, 1);
        x.key(1, 1);
        x.wire(1, 4, true);
        x.time(1, 5);
        Check.make(x, 1, RAM + PAGE, "nop");
        x.picture(1);
        x.fork(1);
        x.record(1, false);
        x.record(0, false);
        x.mark(0, 0, RAM);
        x.mark(1, 0, RAM);
        x.run(0, 9);
        CHECK.due("STOPPED", x.state(0, 0), 2);
        x.computer(2, 2);
        CHECK.due("restore that is refused", x.restore(3, 0), 0);
        CHECK.due("back that is refused", x.back(0, 0), -5);
        CHECK.due("MOVED", x.state(1, 0), 3);
        CHECK.due("moves", x.count(3), 1);
        CHECK.due("a round", x.round(1, 16), 0);
        String[] resets = {"la s0,0x100000\nli a0,0x7777\nsw a0,0(s0)", "la s0,0x10003000\nli a0,1\nsd a0,0(s0)\nj 0x80000010"};
        for (String lines : resets) {
            x = moving(lines);
            x.run(0, 20);
            CHECK.due("a RESET by itself", x.state(1, 0), 3);
            x.finish(1, true);
            CHECK.due("RUNNING", x.state(1, 0), 0);
        }
        x = moving();
        CHECK.due("a fork of the new one's picture is RUNNING", x.picture(1), 1);
        CHECK.due("fork", x.fork(1), 2);
        CHECK.due("RUNNING", x.state(2, 0), 0);
        CHECK.due("cell", x.cell(2, last(0)), 1);
    }

    private static void twoMoves() {
        CHECK.about("term 11: two at once");
        RiscMonitor x = house(2);
        x.picture(0);
        x.fork(0);
        CHECK.due("move", x.move(0), 2);
        CHECK.due("move", x.move(1), 3);
        CHECK.due("moves", x.count(3), 2);
        CHECK.due("a round of one", x.round(2, 16), 0);
        CHECK.due("a loss of the other", x.lose(3, 1), 1);
        CHECK.due("a round of the other", x.round(3, 16), 1);
        x.poke(0, RAM, 1);
        CHECK.due("due of its own", x.finish(3, true), 1);
        CHECK.due("moves", x.count(3), 1);
        CHECK.due("finish", x.finish(2, true), 1);
        CHECK.due("both are RUNNING", x.state(2, 0) + x.state(3, 0), 0);
    }

    private static void seats() {
        CHECK.about("promise 31: the least number");
        RiscMonitor x = house(2);
        x.computer(1, 1);
        x.computer(1, 1);
        x.drop(1);
        CHECK.due("the least that none has", x.move(0), 1);
        CHECK.due("harts", x.state(1, 2), 1);
        CHECK.due("pages", x.state(1, 3), 2);
        CHECK.due("its RAM is 0", x.cell(1, RAM), 0);
        x.drop(0);
        CHECK.due("both are gone", x.count(0), 1);
        CHECK.due("a new one", x.computer(1, 1), 0);
        CHECK.due("it is RUNNING", x.state(0, 0), 0);
        CHECK.due("it is not moved", x.move(0), 1);
    }
}
