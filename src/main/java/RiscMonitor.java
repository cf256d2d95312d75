import java.util.Arrays;

/**
 * A house of up to four computers of 64 bits, as ../shared/DOC.md promises it: they run what the
 * assembler makes of the tape, and are looked at, pictured, recorded, run backwards and moved.
 */
public final class RiscMonitor {
    public static final int NONE = -1;

    private static final int NO_SUCH = -2;
    private static final int OUTSIDE = -4;
    private static final int NOT_SO = -5;

    private static final int MOST_COMPUTERS = 4;
    private static final int MOST_PICTURES = 6;
    private static final int MOST_HARTS = 4;
    private static final int MOST_PAGES = 16;
    private static final int MOST_MARKS = 8;
    private static final int MOST_LOSSES = 40;
    private static final int MOST_STEPS = 2000;
    private static final int PAGE = 4096;
    private static final long RAM_START = 0x80000000L;
    private static final long LOW_WORD = 0xffffffffL;
    private static final long LEAST = 1L << 63;

    private static final int RUNNING = 0;
    private static final int OFF = 1;
    private static final int STOPPED = 2;
    private static final int MOVED = 3;

    private static final int MODE_U = 0;
    private static final int MODE_S = 1;
    private static final int MODE_M = 3;

    private static final int ILLEGAL = 2;
    private static final int VIRTUAL = 22;

    private static final int INPUT_KEY = 0;
    private static final int INPUT_WIRE = 1;
    private static final int INPUT_POKE = 2;
    private static final int INPUT_TIME = 3;

    private static final int MASK_OP = 0x7f;
    private static final int MASK_OP_F3 = 0x707f;
    private static final int MASK_OP_F3_F5 = 0xf800707f;
    private static final int MASK_OP_F3_F5_RS2 = 0xf9f0707f;
    private static final int MASK_OP_F3_F6 = 0xfc00707f;
    private static final int MASK_OP_F3_F7 = 0xfe00707f;
    private static final int MASK_OP_F3_F12 = 0xfff0707f;
    private static final int MASK_OP_RD_F3_F7 = 0xfe007fff;
    private static final int MASK_ALL_BITS = 0xffffffff;

    // The kinds of computing are sums: 1 with an immediate, 2 of 32 bits, 4 with a's lowest 32 bits.
    private static final int ACT_ALU = 0;
    private static final int ACT_ALU_I = 1;
    private static final int ACT_ALU_W = 2;
    private static final int ACT_ALU_WI = 3;
    private static final int ACT_ALU_U = 4;
    private static final int ACT_ALU_UI = 5;
    private static final int ACT_LUI = 8;
    private static final int ACT_AUIPC = 9;
    private static final int ACT_JAL = 10;
    private static final int ACT_JALR = 11;
    private static final int ACT_BRANCH = 12;
    private static final int ACT_FENCE = 13;
    private static final int ACT_SYSTEM = 14;
    private static final int ACT_CSR = 15;
    // From here on up to ACT_HSV memory is accessed.
    private static final int ACT_LOAD = 16;
    private static final int ACT_STORE = 17;
    private static final int ACT_LR = 18;
    private static final int ACT_SC = 19;
    private static final int ACT_AMO = 20;
    private static final int ACT_HLV = 21;
    private static final int ACT_HSV = 22;
    // From here on only the assembler knows them; no word decodes to one.
    private static final int ACT_SHORT = 23;
    private static final int ACT_LI = 24;
    private static final int ACT_LA = 25;
    private static final int ACT_DATA = 26;
    private static final int ACT_ZERO = 27;
    private static final int ACT_ALIGN = 28;
    private static final int ACT_ASCII = 29;

    private static final int SYS_ECALL = 0;
    private static final int SYS_EBREAK = 1;
    private static final int SYS_SRET = 2;
    private static final int SYS_MRET = 3;
    private static final int SYS_WFI = 4;
    private static final int SYS_SFENCE = 5;
    private static final int SYS_HFENCE_V = 6;
    private static final int SYS_HFENCE_G = 7;

    private final Reader reader = new Reader();
    private final Assembler assembler = new Assembler();
    private final Computer[] computers = new Computer[MOST_COMPUTERS];
    private final Body[] pictures = new Body[MOST_PICTURES];
    private final boolean[] kept = new boolean[MOST_PICTURES];

    public RiscMonitor() {
    }

    public void sign(long c) {
        for (int shift = 56; shift >= 0; shift -= 8) {
            assembler.take((int) (c >>> shift) & 255);
        }
    }

    public int computer(int harts, int pages) {
        if (harts < 1 || harts > MOST_HARTS || pages < 1 || pages > MOST_PAGES) {
            return OUTSIDE;
        }
        return newComputer(harts, pages);
    }

    public int drop(int m) {
        Computer c = seated(m);
        if (c == null) {
            return NO_SUCH;
        }
        c.breakMoves();
        c.here = false;
        return 1;
    }

    public int assemble(int m, long at) {
        Computer c = seated(m);
        if (c == null) {
            return NO_SUCH;
        }
        int from = c.body.offset(at, 1);
        if (from == NONE) {
            return OUTSIDE;
        }
        assembler.read(c.body, at, Assembler.FOR_PLACES);
        assembler.read(c.body, at, Assembler.FOR_FAULTS);
        assembler.read(c.body, at, Assembler.FOR_BYTES);
        int answer = assembler.answer(at);
        if (answer >= 0) {
            c.book.touch(from, answer, NONE);
            c.journal.on = false;
        }
        return answer;
    }

    public int list(int m, long at, int i) {
        Computer c = seated(m);
        if (c == null) {
            return NO_SUCH;
        }
        int from = c.body.offset(at, 2);
        if (from == NONE || i < 0) {
            return NONE;
        }
        int half = c.body.halfAt(from);
        if ((half & 3) == 3 && c.body.offset(at, 4) != NONE) {
            reader.spell(half | c.body.halfAt(from + 2) << 16, 4);
        } else {
            reader.spell(half, 2);
        }
        return reader.spelled(i);
    }

    public int run(int m, int n) {
        Computer c = seated(m);
        if (c == null) {
            return NO_SUCH;
        }
        if (n < 1 || n > MOST_STEPS) {
            return OUTSIDE;
        }
        if (c.status() != RUNNING) {
            return NOT_SO;
        }
        for (int done = 0; done < n; done++) {
            if (c.status() != RUNNING || c.stopsAhead()) {
                return done;
            }
            c.core.step(true);
            c.lookBehind();
        }
        return n;
    }

    public int reset(int m) {
        Computer c = seated(m);
        if (c == null) {
            return NO_SUCH;
        }
        c.breakMoves();
        c.devices.restart();
        c.release();
        c.journal.on = false;
        return 1;
    }

    public long state(int m, int what) {
        Computer c = seated(m);
        return c == null ? NO_SUCH : c.tell(what);
    }

    public long hart(int m, int h, int what) {
        Computer c = seated(m);
        if (c == null || !c.body.hasHart(h)) {
            return NO_SUCH;
        }
        return c.tellHart(h, what);
    }

    public long register(int m, int h, int r) throws IllegalArgumentException {
        Computer c = seated(m);
        if (c == null || !c.body.hasHart(h) || r < 0 || r > 31) {
            throw new IllegalArgumentException("no such computer, hart or register");
        }
        return c.body.regs[h * Body.ROW + r];
    }

    public long control(int m, int h, int number) throws IllegalArgumentException {
        Computer c = seated(m);
        if (c == null || !c.body.hasHart(h) || Csrs.slotOf(number) == NONE) {
            throw new IllegalArgumentException("no such computer, hart or control register");
        }
        return c.csrs.read(h, number, false);
    }

    public int cell(int m, long at) {
        Computer c = seated(m);
        if (c == null) {
            return NO_SUCH;
        }
        int from = c.body.offset(at, 1);
        return from == NONE ? NONE : Body.byteOf(c.body.ram, from);
    }

    public int poke(int m, long at, int b) {
        Computer c = seated(m);
        if (c == null) {
            return NO_SUCH;
        }
        int from = c.body.offset(at, 1);
        if (from == NONE) {
            return OUTSIDE;
        }
        if (!c.journal.note(INPUT_POKE, from, b & 255)) {
            return NONE;
        }
        c.accept(INPUT_POKE, from, b & 255);
        return 1;
    }

    public long walk(int m, int h, long at, int kind) {
        Computer c = seated(m);
        if (c == null || !c.body.hasHart(h)) {
            return NO_SUCH;
        }
        if (kind < Mmu.FETCH || kind > Mmu.STORE) {
            return OUTSIDE;
        }
        c.mmu.aim(h, kind);
        return c.mmu.find(at, 1, false) ? c.mmu.place : -10L - c.mmu.cause;
    }

    public int key(int m, int c) {
        Computer x = seated(m);
        if (x == null) {
            return NO_SUCH;
        }
        if (c < 0 || c > 255) {
            return OUTSIDE;
        }
        if (!x.devices.hasRoomForKey() || !x.journal.note(INPUT_KEY, c, 0)) {
            return NONE;
        }
        x.accept(INPUT_KEY, c, 0);
        return (int) x.body.dev[Body.KEYS];
    }

    public int serial(int m, int i) {
        Computer c = seated(m);
        if (c == null) {
            return NO_SUCH;
        }
        return i < 0 || i >= c.body.dev[Body.OUTPUTS] ? NONE : Body.byteOf(c.body.out, i);
    }

    public int wire(int m, int source, boolean on) {
        Computer c = seated(m);
        if (c == null) {
            return NO_SUCH;
        }
        if (source < 4 || source > 7) {
            return OUTSIDE;
        }
        int was = (int) (c.body.dev[Body.WIRES] >>> source) & 1;
        if (!c.journal.note(INPUT_WIRE, source, on ? 1 : 0)) {
            return NONE;
        }
        c.accept(INPUT_WIRE, source, on ? 1 : 0);
        return was;
    }

    public int time(int m, long t) {
        Computer c = seated(m);
        if (c == null) {
            return NO_SUCH;
        }
        if (!c.journal.note(INPUT_TIME, t, 0)) {
            return NONE;
        }
        c.accept(INPUT_TIME, t, 0);
        return 1;
    }

    public int sector(int m, int n, int i) {
        Computer c = seated(m);
        if (c == null) {
            return NO_SUCH;
        }
        if (n < 0 || n >= Devices.SECTORS || i < 0 || i >= Devices.SECTOR) {
            return NONE;
        }
        return Body.byteOf(c.body.disk, n * Devices.SECTOR + i);
    }

    public long block(int m, int what) {
        Computer c = seated(m);
        return c == null ? NO_SUCH : c.book.tell(what);
    }

    public int picture(int m) {
        Computer c = seated(m);
        if (c == null) {
            return NO_SUCH;
        }
        for (int s = 0; s < MOST_PICTURES; s++) {
            if (!kept[s]) {
                if (pictures[s] == null) {
                    pictures[s] = new Body();
                }
                pictures[s].copyAll(c.body);
                kept[s] = true;
                return s;
            }
        }
        return NONE;
    }

    public int forget(int s) {
        if (pictured(s) == null) {
            return NO_SUCH;
        }
        kept[s] = false;
        return 1;
    }

    public int restore(int m, int s) {
        Computer c = seated(m);
        Body picture = pictured(s);
        if (c == null || picture == null) {
            return NO_SUCH;
        }
        if (c.body.harts != picture.harts || c.body.pages != picture.pages) {
            return 0;
        }
        c.breakMoves();
        c.body.copyAll(picture);
        c.book.clear();
        c.release();
        c.journal.on = false;
        return 1;
    }

    public int fork(int s) {
        Body picture = pictured(s);
        if (picture == null) {
            return NO_SUCH;
        }
        int m = newComputer(picture.harts, picture.pages);
        Computer c = seated(m);
        if (c != null) {
            c.body.copyAll(picture);
        }
        return m;
    }

    public int changed(int m, int s) {
        Computer c = seated(m);
        Body picture = pictured(s);
        if (c == null || picture == null) {
            return NO_SUCH;
        }
        if (c.body.pages != picture.pages) {
            return NONE;
        }
        int differ = 0;
        for (int page = 0; page < picture.pages; page++) {
            differ += c.body.hasSamePage(picture, page) ? 0 : 1;
        }
        return differ;
    }

    public int record(int m, boolean on) {
        Computer c = seated(m);
        if (c == null) {
            return NO_SUCH;
        }
        int was = c.journal.on ? 1 : 0;
        if (on) {
            c.journal.beginRecord(c.body);
        } else {
            c.journal.on = false;
        }
        return was;
    }

    public int back(int m, int n) {
        Computer c = seated(m);
        if (c == null) {
            return NO_SUCH;
        }
        Body start = c.journal.start;
        if (!c.journal.on || start == null) {
            return NOT_SO;
        }
        if (n < 0 || n > c.journal.steps) {
            return OUTSIDE;
        }
        c.breakMoves();
        c.book.clear();
        c.release();
        if (n > 0) {
            int goal = c.journal.steps - n;
            c.body.copyAll(start);
            int next = 0;
            for (int done = 0; done < goal; done++) {
                next = c.feed(c.journal, next, done);
                c.core.step(false);
            }
            c.journal.cut(goal);
        }
        return 1;
    }

    public int replay(int m) {
        Computer c = seated(m);
        if (c == null) {
            return NO_SUCH;
        }
        Body start = c.journal.start;
        if (!c.journal.on || start == null) {
            return NOT_SO;
        }
        int p = newComputer(c.body.harts, c.body.pages);
        Computer again = seated(p);
        if (again != null) {
            again.body.copyAll(start);
            int next = 0;
            for (int done = 0; done < c.journal.steps; done++) {
                next = again.feed(c.journal, next, done);
                again.core.step(false);
            }
            again.feed(c.journal, next, c.journal.steps);
            again.book.clear();
        }
        return p;
    }

    public int alike(int m, int p) {
        Computer c = seated(m);
        Computer d = seated(p);
        if (c == null || d == null) {
            return NO_SUCH;
        }
        return c.body.isSame(d.body) ? 1 : 0;
    }

    public int move(int m) {
        Computer c = seated(m);
        if (c == null) {
            return NO_SUCH;
        }
        if (c.status() != RUNNING || c.target != null) {
            return NOT_SO;
        }
        int v = newComputer(c.body.harts, c.body.pages);
        Computer to = seated(v);
        if (to != null) {
            c.target = to;
            to.source = c;
            to.due = (1 << c.body.pages) - 1;
            c.book.touched = 0;
        }
        return v;
    }

    public int round(int v, int n) {
        Computer to = movedTo(v);
        if (to == null) {
            return NO_SUCH;
        }
        if (n < 1 || n > MOST_PAGES) {
            return OUTSIDE;
        }
        to.sendPages(n);
        return Integer.bitCount(to.due);
    }

    public int lose(int v, int k) {
        Computer to = movedTo(v);
        if (to == null) {
            return NO_SUCH;
        }
        if (k < 1 || k > MOST_LOSSES) {
            return OUTSIDE;
        }
        long page = 1L << (k - 1);
        if ((to.lost & page) != 0) {
            return 0;
        }
        to.lost |= page;
        return 1;
    }

    public int finish(int v, boolean whole) {
        Computer to = movedTo(v);
        if (to == null) {
            return NO_SUCH;
        }
        if (!whole) {
            to.breakMoves();
            return 0;
        }
        int sent = to.sendPages(MOST_PAGES);
        // Each round more is owed to a page that was lost, and no more than MOST_LOSSES are told.
        for (int more = 0; to.due != 0 && more <= MOST_LOSSES; more++) {
            sent += to.sendPages(MOST_PAGES);
        }
        to.takeOver();
        return sent;
    }

    public int mark(int m, int kind, long at) {
        Computer c = seated(m);
        if (c == null) {
            return NO_SUCH;
        }
        if (kind < 0 || kind > 1 || kind == Computer.MARK_STORE && c.body.offset(at, 1) == NONE) {
            return OUTSIDE;
        }
        for (int k = 0; k < MOST_MARKS; k++) {
            if (c.markKind[k] == NONE) {
                c.markKind[k] = kind;
                c.markPlace[k] = at;
                return k;
            }
        }
        return NONE;
    }

    public int unmark(int m, int k) {
        Computer c = seated(m);
        if (c == null || k < 0 || k >= MOST_MARKS || c.markKind[k] == NONE) {
            return NO_SUCH;
        }
        c.markKind[k] = NONE;
        return 1;
    }

    public int go(int m) {
        Computer c = seated(m);
        if (c == null) {
            return NO_SUCH;
        }
        if (c.status() != STOPPED) {
            return NOT_SO;
        }
        c.stop = NONE;
        c.aside = true;
        return 1;
    }

    public long trace(int m, int i, int what) {
        Computer c = seated(m);
        return c == null ? NO_SUCH : c.journal.tellTrace(i, what);
    }

    public int count(int what) {
        switch (what) {
            case 0:
            case 3:
            case 4: return countComputers(what);
            case 1: return countPictures();
            case 2: return assembler.size;
            default: return NONE;
        }
    }

    private int countComputers(int what) {
        int n = 0;
        for (int m = 0; m < MOST_COMPUTERS; m++) {
            Computer c = seated(m);
            if (c != null && (what == 0 || what == 3 && c.source != null || what == 4 && c.journal.on)) {
                n++;
            }
        }
        return n;
    }

    private int countPictures() {
        int n = 0;
        for (int s = 0; s < MOST_PICTURES; s++) {
            n += kept[s] ? 1 : 0;
        }
        return n;
    }

    private Computer seated(int m) {
        if (m < 0 || m >= MOST_COMPUTERS) {
            return null;
        }
        Computer c = computers[m];
        return c == null || !c.here ? null : c;
    }

    private Computer movedTo(int v) {
        Computer c = seated(v);
        return c == null || c.source == null ? null : c;
    }

    private Body pictured(int s) {
        return s < 0 || s >= MOST_PICTURES || !kept[s] ? null : pictures[s];
    }

    /** Seats are made once and used again, since all that is made stays in one room. */
    private int newComputer(int harts, int pages) {
        for (int m = 0; m < MOST_COMPUTERS; m++) {
            if (seated(m) == null) {
                if (computers[m] == null) {
                    computers[m] = new Computer(reader);
                }
                computers[m].begin(harts, pages);
                return m;
            }
        }
        return NONE;
    }

    /**
     * All instructions, short forms and directives. A word is the instruction when it has match's bits
     * where mask has ones. The pattern tells the operands, for the assembler and for what is listed:
     * d, s, t are registers (rd, rs1, rs2), i, k immediates (I, S), h, w shifts, b, j distances,
     * u upper bits, c a control register, z a small number, l and a what li and la take.
     */
    private enum Op {
        LUI("lui", 0x00000037, MASK_OP, "d,u", ACT_LUI, 0),
        AUIPC("auipc", 0x00000017, MASK_OP, "d,u", ACT_AUIPC, 0),
        JAL("jal", 0x0000006f, MASK_OP, "d,j", ACT_JAL, 0),
        JALR("jalr", 0x00000067, MASK_OP_F3, "d,i(s)", ACT_JALR, 0),
        BEQ("beq", 0x00000063, MASK_OP_F3, "s,t,b", ACT_BRANCH, 0),
        BNE("bne", 0x00001063, MASK_OP_F3, "s,t,b", ACT_BRANCH, 1),
        BLT("blt", 0x00004063, MASK_OP_F3, "s,t,b", ACT_BRANCH, 4),
        BGE("bge", 0x00005063, MASK_OP_F3, "s,t,b", ACT_BRANCH, 5),
        BLTU("bltu", 0x00006063, MASK_OP_F3, "s,t,b", ACT_BRANCH, 6),
        BGEU("bgeu", 0x00007063, MASK_OP_F3, "s,t,b", ACT_BRANCH, 7),
        LB("lb", 0x00000003, MASK_OP_F3, "d,i(s)", ACT_LOAD, 0),
        LH("lh", 0x00001003, MASK_OP_F3, "d,i(s)", ACT_LOAD, 1),
        LW("lw", 0x00002003, MASK_OP_F3, "d,i(s)", ACT_LOAD, 2),
        LD("ld", 0x00003003, MASK_OP_F3, "d,i(s)", ACT_LOAD, 3),
        LBU("lbu", 0x00004003, MASK_OP_F3, "d,i(s)", ACT_LOAD, 4),
        LHU("lhu", 0x00005003, MASK_OP_F3, "d,i(s)", ACT_LOAD, 5),
        LWU("lwu", 0x00006003, MASK_OP_F3, "d,i(s)", ACT_LOAD, 6),
        SB("sb", 0x00000023, MASK_OP_F3, "t,k(s)", ACT_STORE, 0),
        SH("sh", 0x00001023, MASK_OP_F3, "t,k(s)", ACT_STORE, 1),
        SW("sw", 0x00002023, MASK_OP_F3, "t,k(s)", ACT_STORE, 2),
        SD("sd", 0x00003023, MASK_OP_F3, "t,k(s)", ACT_STORE, 3),
        ADDI("addi", 0x00000013, MASK_OP_F3, "d,s,i", ACT_ALU_I, Alu.ADD),
        SLLI("slli", 0x00001013, MASK_OP_F3_F6, "d,s,h", ACT_ALU_I, Alu.SLL),
        BSETI("bseti", 0x28001013, MASK_OP_F3_F6, "d,s,h", ACT_ALU_I, Alu.BSET),
        BCLRI("bclri", 0x48001013, MASK_OP_F3_F6, "d,s,h", ACT_ALU_I, Alu.BCLR),
        BINVI("binvi", 0x68001013, MASK_OP_F3_F6, "d,s,h", ACT_ALU_I, Alu.BINV),
        CLZ("clz", 0x60001013, MASK_OP_F3_F12, "d,s", ACT_ALU_I, Alu.CLZ),
        CTZ("ctz", 0x60101013, MASK_OP_F3_F12, "d,s", ACT_ALU_I, Alu.CTZ),
        CPOP("cpop", 0x60201013, MASK_OP_F3_F12, "d,s", ACT_ALU_I, Alu.CPOP),
        SEXT_B("sext.b", 0x60401013, MASK_OP_F3_F12, "d,s", ACT_ALU_I, Alu.SEXT_B),
        SEXT_H("sext.h", 0x60501013, MASK_OP_F3_F12, "d,s", ACT_ALU_I, Alu.SEXT_H),
        SLTI("slti", 0x00002013, MASK_OP_F3, "d,s,i", ACT_ALU_I, Alu.SLT),
        SLTIU("sltiu", 0x00003013, MASK_OP_F3, "d,s,i", ACT_ALU_I, Alu.SLTU),
        XORI("xori", 0x00004013, MASK_OP_F3, "d,s,i", ACT_ALU_I, Alu.XOR),
        SRLI("srli", 0x00005013, MASK_OP_F3_F6, "d,s,h", ACT_ALU_I, Alu.SRL),
        SRAI("srai", 0x40005013, MASK_OP_F3_F6, "d,s,h", ACT_ALU_I, Alu.SRA),
        BEXTI("bexti", 0x48005013, MASK_OP_F3_F6, "d,s,h", ACT_ALU_I, Alu.BEXT),
        RORI("rori", 0x60005013, MASK_OP_F3_F6, "d,s,h", ACT_ALU_I, Alu.ROR),
        ORC_B("orc.b", 0x28705013, MASK_OP_F3_F12, "d,s", ACT_ALU_I, Alu.ORC_B),
        REV8("rev8", 0x6b805013, MASK_OP_F3_F12, "d,s", ACT_ALU_I, Alu.REV8),
        ORI("ori", 0x00006013, MASK_OP_F3, "d,s,i", ACT_ALU_I, Alu.OR),
        ANDI("andi", 0x00007013, MASK_OP_F3, "d,s,i", ACT_ALU_I, Alu.AND),
        ADDIW("addiw", 0x0000001b, MASK_OP_F3, "d,s,i", ACT_ALU_WI, Alu.ADD),
        SLLIW("slliw", 0x0000101b, MASK_OP_F3_F7, "d,s,w", ACT_ALU_WI, Alu.SLL),
        SLLI_UW("slli.uw", 0x0800101b, MASK_OP_F3_F6, "d,s,h", ACT_ALU_UI, Alu.SLL),
        CLZW("clzw", 0x6000101b, MASK_OP_F3_F12, "d,s", ACT_ALU_WI, Alu.CLZ),
        CTZW("ctzw", 0x6010101b, MASK_OP_F3_F12, "d,s", ACT_ALU_WI, Alu.CTZ),
        CPOPW("cpopw", 0x6020101b, MASK_OP_F3_F12, "d,s", ACT_ALU_WI, Alu.CPOP),
        SRLIW("srliw", 0x0000501b, MASK_OP_F3_F7, "d,s,w", ACT_ALU_WI, Alu.SRL),
        SRAIW("sraiw", 0x4000501b, MASK_OP_F3_F7, "d,s,w", ACT_ALU_WI, Alu.SRA),
        RORIW("roriw", 0x6000501b, MASK_OP_F3_F7, "d,s,w", ACT_ALU_WI, Alu.ROR),
        ADD("add", 0x00000033, MASK_OP_F3_F7, "d,s,t", ACT_ALU, Alu.ADD),
        SUB("sub", 0x40000033, MASK_OP_F3_F7, "d,s,t", ACT_ALU, Alu.SUB),
        MUL("mul", 0x02000033, MASK_OP_F3_F7, "d,s,t", ACT_ALU, Alu.MUL),
        SLL("sll", 0x00001033, MASK_OP_F3_F7, "d,s,t", ACT_ALU, Alu.SLL),
        MULH("mulh", 0x02001033, MASK_OP_F3_F7, "d,s,t", ACT_ALU, Alu.MULH),
        CLMUL("clmul", 0x0a001033, MASK_OP_F3_F7, "d,s,t", ACT_ALU, Alu.CLMUL),
        ROL("rol", 0x60001033, MASK_OP_F3_F7, "d,s,t", ACT_ALU, Alu.ROL),
        BSET("bset", 0x28001033, MASK_OP_F3_F7, "d,s,t", ACT_ALU, Alu.BSET),
        BCLR("bclr", 0x48001033, MASK_OP_F3_F7, "d,s,t", ACT_ALU, Alu.BCLR),
        BINV("binv", 0x68001033, MASK_OP_F3_F7, "d,s,t", ACT_ALU, Alu.BINV),
        SLT("slt", 0x00002033, MASK_OP_F3_F7, "d,s,t", ACT_ALU, Alu.SLT),
        MULHSU("mulhsu", 0x02002033, MASK_OP_F3_F7, "d,s,t", ACT_ALU, Alu.MULHSU),
        SH1ADD("sh1add", 0x20002033, MASK_OP_F3_F7, "d,s,t", ACT_ALU, Alu.SH1ADD),
        CLMULR("clmulr", 0x0a002033, MASK_OP_F3_F7, "d,s,t", ACT_ALU, Alu.CLMULR),
        SLTU("sltu", 0x00003033, MASK_OP_F3_F7, "d,s,t", ACT_ALU, Alu.SLTU),
        MULHU("mulhu", 0x02003033, MASK_OP_F3_F7, "d,s,t", ACT_ALU, Alu.MULHU),
        CLMULH("clmulh", 0x0a003033, MASK_OP_F3_F7, "d,s,t", ACT_ALU, Alu.CLMULH),
        XOR("xor", 0x00004033, MASK_OP_F3_F7, "d,s,t", ACT_ALU, Alu.XOR),
        XNOR("xnor", 0x40004033, MASK_OP_F3_F7, "d,s,t", ACT_ALU, Alu.XNOR),
        DIV("div", 0x02004033, MASK_OP_F3_F7, "d,s,t", ACT_ALU, Alu.DIV),
        SH2ADD("sh2add", 0x20004033, MASK_OP_F3_F7, "d,s,t", ACT_ALU, Alu.SH2ADD),
        MIN("min", 0x0a004033, MASK_OP_F3_F7, "d,s,t", ACT_ALU, Alu.MIN),
        SRL("srl", 0x00005033, MASK_OP_F3_F7, "d,s,t", ACT_ALU, Alu.SRL),
        SRA("sra", 0x40005033, MASK_OP_F3_F7, "d,s,t", ACT_ALU, Alu.SRA),
        DIVU("divu", 0x02005033, MASK_OP_F3_F7, "d,s,t", ACT_ALU, Alu.DIVU),
        MINU("minu", 0x0a005033, MASK_OP_F3_F7, "d,s,t", ACT_ALU, Alu.MINU),
        ROR("ror", 0x60005033, MASK_OP_F3_F7, "d,s,t", ACT_ALU, Alu.ROR),
        BEXT("bext", 0x48005033, MASK_OP_F3_F7, "d,s,t", ACT_ALU, Alu.BEXT),
        CZERO_EQZ("czero.eqz", 0x0e005033, MASK_OP_F3_F7, "d,s,t", ACT_ALU, Alu.CZERO_EQZ),
        OR("or", 0x00006033, MASK_OP_F3_F7, "d,s,t", ACT_ALU, Alu.OR),
        ORN("orn", 0x40006033, MASK_OP_F3_F7, "d,s,t", ACT_ALU, Alu.ORN),
        REM("rem", 0x02006033, MASK_OP_F3_F7, "d,s,t", ACT_ALU, Alu.REM),
        SH3ADD("sh3add", 0x20006033, MASK_OP_F3_F7, "d,s,t", ACT_ALU, Alu.SH3ADD),
        MAX("max", 0x0a006033, MASK_OP_F3_F7, "d,s,t", ACT_ALU, Alu.MAX),
        AND("and", 0x00007033, MASK_OP_F3_F7, "d,s,t", ACT_ALU, Alu.AND),
        ANDN("andn", 0x40007033, MASK_OP_F3_F7, "d,s,t", ACT_ALU, Alu.ANDN),
        REMU("remu", 0x02007033, MASK_OP_F3_F7, "d,s,t", ACT_ALU, Alu.REMU),
        MAXU("maxu", 0x0a007033, MASK_OP_F3_F7, "d,s,t", ACT_ALU, Alu.MAXU),
        CZERO_NEZ("czero.nez", 0x0e007033, MASK_OP_F3_F7, "d,s,t", ACT_ALU, Alu.CZERO_NEZ),
        ADDW("addw", 0x0000003b, MASK_OP_F3_F7, "d,s,t", ACT_ALU_W, Alu.ADD),
        SUBW("subw", 0x4000003b, MASK_OP_F3_F7, "d,s,t", ACT_ALU_W, Alu.SUB),
        MULW("mulw", 0x0200003b, MASK_OP_F3_F7, "d,s,t", ACT_ALU_W, Alu.MUL),
        ADD_UW("add.uw", 0x0800003b, MASK_OP_F3_F7, "d,s,t", ACT_ALU_U, Alu.ADD),
        SLLW("sllw", 0x0000103b, MASK_OP_F3_F7, "d,s,t", ACT_ALU_W, Alu.SLL),
        ROLW("rolw", 0x6000103b, MASK_OP_F3_F7, "d,s,t", ACT_ALU_W, Alu.ROL),
        SH1ADD_UW("sh1add.uw", 0x2000203b, MASK_OP_F3_F7, "d,s,t", ACT_ALU_U, Alu.SH1ADD),
        DIVW("divw", 0x0200403b, MASK_OP_F3_F7, "d,s,t", ACT_ALU_W, Alu.DIV),
        SH2ADD_UW("sh2add.uw", 0x2000403b, MASK_OP_F3_F7, "d,s,t", ACT_ALU_U, Alu.SH2ADD),
        ZEXT_H("zext.h", 0x0800403b, MASK_OP_F3_F12, "d,s", ACT_ALU, Alu.ZEXT_H),
        SRLW("srlw", 0x0000503b, MASK_OP_F3_F7, "d,s,t", ACT_ALU_W, Alu.SRL),
        SRAW("sraw", 0x4000503b, MASK_OP_F3_F7, "d,s,t", ACT_ALU_W, Alu.SRA),
        DIVUW("divuw", 0x0200503b, MASK_OP_F3_F7, "d,s,t", ACT_ALU_W, Alu.DIVU),
        RORW("rorw", 0x6000503b, MASK_OP_F3_F7, "d,s,t", ACT_ALU_W, Alu.ROR),
        REMW("remw", 0x0200603b, MASK_OP_F3_F7, "d,s,t", ACT_ALU_W, Alu.REM),
        SH3ADD_UW("sh3add.uw", 0x2000603b, MASK_OP_F3_F7, "d,s,t", ACT_ALU_U, Alu.SH3ADD),
        REMUW("remuw", 0x0200703b, MASK_OP_F3_F7, "d,s,t", ACT_ALU_W, Alu.REMU),
        LR_W("lr.w", 0x1000202f, MASK_OP_F3_F5_RS2, "d,(s)", ACT_LR, 0),
        SC_W("sc.w", 0x1800202f, MASK_OP_F3_F5, "d,t,(s)", ACT_SC, 0),
        AMOADD_W("amoadd.w", 0x0000202f, MASK_OP_F3_F5, "d,t,(s)", ACT_AMO, 0),
        AMOSWAP_W("amoswap.w", 0x0800202f, MASK_OP_F3_F5, "d,t,(s)", ACT_AMO, 1),
        AMOXOR_W("amoxor.w", 0x2000202f, MASK_OP_F3_F5, "d,t,(s)", ACT_AMO, 4),
        AMOOR_W("amoor.w", 0x4000202f, MASK_OP_F3_F5, "d,t,(s)", ACT_AMO, 8),
        AMOAND_W("amoand.w", 0x6000202f, MASK_OP_F3_F5, "d,t,(s)", ACT_AMO, 12),
        AMOMIN_W("amomin.w", 0x8000202f, MASK_OP_F3_F5, "d,t,(s)", ACT_AMO, 16),
        AMOMAX_W("amomax.w", 0xa000202f, MASK_OP_F3_F5, "d,t,(s)", ACT_AMO, 20),
        AMOMINU_W("amominu.w", 0xc000202f, MASK_OP_F3_F5, "d,t,(s)", ACT_AMO, 24),
        AMOMAXU_W("amomaxu.w", 0xe000202f, MASK_OP_F3_F5, "d,t,(s)", ACT_AMO, 28),
        LR_D("lr.d", 0x1000302f, MASK_OP_F3_F5_RS2, "d,(s)", ACT_LR, 0),
        SC_D("sc.d", 0x1800302f, MASK_OP_F3_F5, "d,t,(s)", ACT_SC, 0),
        AMOADD_D("amoadd.d", 0x0000302f, MASK_OP_F3_F5, "d,t,(s)", ACT_AMO, 0),
        AMOSWAP_D("amoswap.d", 0x0800302f, MASK_OP_F3_F5, "d,t,(s)", ACT_AMO, 1),
        AMOXOR_D("amoxor.d", 0x2000302f, MASK_OP_F3_F5, "d,t,(s)", ACT_AMO, 4),
        AMOOR_D("amoor.d", 0x4000302f, MASK_OP_F3_F5, "d,t,(s)", ACT_AMO, 8),
        AMOAND_D("amoand.d", 0x6000302f, MASK_OP_F3_F5, "d,t,(s)", ACT_AMO, 12),
        AMOMIN_D("amomin.d", 0x8000302f, MASK_OP_F3_F5, "d,t,(s)", ACT_AMO, 16),
        AMOMAX_D("amomax.d", 0xa000302f, MASK_OP_F3_F5, "d,t,(s)", ACT_AMO, 20),
        AMOMINU_D("amominu.d", 0xc000302f, MASK_OP_F3_F5, "d,t,(s)", ACT_AMO, 24),
        AMOMAXU_D("amomaxu.d", 0xe000302f, MASK_OP_F3_F5, "d,t,(s)", ACT_AMO, 28),
        FENCE("fence", 0x0ff0000f, MASK_OP_F3, "", ACT_FENCE, 0),
        FENCE_I("fence.i", 0x0000100f, MASK_OP_F3, "", ACT_FENCE, 1),
        ECALL("ecall", 0x00000073, MASK_ALL_BITS, "", ACT_SYSTEM, SYS_ECALL),
        EBREAK("ebreak", 0x00100073, MASK_ALL_BITS, "", ACT_SYSTEM, SYS_EBREAK),
        SRET("sret", 0x10200073, MASK_ALL_BITS, "", ACT_SYSTEM, SYS_SRET),
        MRET("mret", 0x30200073, MASK_ALL_BITS, "", ACT_SYSTEM, SYS_MRET),
        WFI("wfi", 0x10500073, MASK_ALL_BITS, "", ACT_SYSTEM, SYS_WFI),
        SFENCE_VMA("sfence.vma", 0x12000073, MASK_OP_RD_F3_F7, "s,t", ACT_SYSTEM, SYS_SFENCE),
        HFENCE_VVMA("hfence.vvma", 0x22000073, MASK_OP_RD_F3_F7, "s,t", ACT_SYSTEM, SYS_HFENCE_V),
        HFENCE_GVMA("hfence.gvma", 0x62000073, MASK_OP_RD_F3_F7, "s,t", ACT_SYSTEM, SYS_HFENCE_G),
        CSRRW("csrrw", 0x00001073, MASK_OP_F3, "d,c,s", ACT_CSR, 0),
        CSRRS("csrrs", 0x00002073, MASK_OP_F3, "d,c,s", ACT_CSR, 0),
        CSRRC("csrrc", 0x00003073, MASK_OP_F3, "d,c,s", ACT_CSR, 0),
        HLV_B("hlv.b", 0x60004073, MASK_OP_F3_F12, "d,(s)", ACT_HLV, 0),
        HLV_BU("hlv.bu", 0x60104073, MASK_OP_F3_F12, "d,(s)", ACT_HLV, 4),
        HLV_H("hlv.h", 0x64004073, MASK_OP_F3_F12, "d,(s)", ACT_HLV, 1),
        HLV_HU("hlv.hu", 0x64104073, MASK_OP_F3_F12, "d,(s)", ACT_HLV, 5),
        HLVX_HU("hlvx.hu", 0x64304073, MASK_OP_F3_F12, "d,(s)", ACT_HLV, 13),
        HLV_W("hlv.w", 0x68004073, MASK_OP_F3_F12, "d,(s)", ACT_HLV, 2),
        HLV_WU("hlv.wu", 0x68104073, MASK_OP_F3_F12, "d,(s)", ACT_HLV, 6),
        HLVX_WU("hlvx.wu", 0x68304073, MASK_OP_F3_F12, "d,(s)", ACT_HLV, 14),
        HLV_D("hlv.d", 0x6c004073, MASK_OP_F3_F12, "d,(s)", ACT_HLV, 3),
        HSV_B("hsv.b", 0x62004073, MASK_OP_RD_F3_F7, "t,(s)", ACT_HSV, 0),
        HSV_H("hsv.h", 0x66004073, MASK_OP_RD_F3_F7, "t,(s)", ACT_HSV, 1),
        HSV_W("hsv.w", 0x6a004073, MASK_OP_RD_F3_F7, "t,(s)", ACT_HSV, 2),
        HSV_D("hsv.d", 0x6e004073, MASK_OP_RD_F3_F7, "t,(s)", ACT_HSV, 3),
        CSRRWI("csrrwi", 0x00005073, MASK_OP_F3, "d,c,z", ACT_CSR, 0),
        CSRRSI("csrrsi", 0x00006073, MASK_OP_F3, "d,c,z", ACT_CSR, 0),
        CSRRCI("csrrci", 0x00007073, MASK_OP_F3, "d,c,z", ACT_CSR, 0),
        NOP("nop", 0x00000013, 0, "", ACT_SHORT, 0),
        MV("mv", 0x00000013, 0, "d,s", ACT_SHORT, 0),
        NOT("not", 0xfff04013, 0, "d,s", ACT_SHORT, 0),
        NEG("neg", 0x40000033, 0, "d,t", ACT_SHORT, 0),
        LI("li", 0x00000013, 0, "d,l", ACT_LI, 0),
        LA("la", 0x00000017, 0, "d,a", ACT_LA, 0),
        J("j", 0x0000006f, 0, "j", ACT_SHORT, 0),
        CALL("call", 0x000000ef, 0, "j", ACT_SHORT, 0),
        JR("jr", 0x00000067, 0, "s", ACT_SHORT, 0),
        RET("ret", 0x00008067, 0, "", ACT_SHORT, 0),
        BEQZ("beqz", 0x00000063, 0, "s,b", ACT_SHORT, 0),
        BNEZ("bnez", 0x00001063, 0, "s,b", ACT_SHORT, 0),
        CSRR("csrr", 0x00002073, 0, "d,c", ACT_SHORT, 0),
        CSRW("csrw", 0x00001073, 0, "c,s", ACT_SHORT, 0),
        DATA_1(".byte", 0x00000000, 0, "", ACT_DATA, 1),
        DATA_2(".half", 0x00000000, 0, "", ACT_DATA, 2),
        DATA_4(".word", 0x00000000, 0, "", ACT_DATA, 4),
        DATA_8(".dword", 0x00000000, 0, "", ACT_DATA, 8),
        SPACE(".zero", 0x00000000, 0, "", ACT_ZERO, 0),
        ALIGNED(".align", 0x00000000, 0, "", ACT_ALIGN, 0),
        SIGNS(".ascii", 0x00000000, 0, "", ACT_ASCII, 0);

        final String text;
        final int match;
        final int mask;
        final String pattern;
        final int act;
        final int sub;

        Op(String text, int match, int mask, String pattern, int act, int sub) {
            this.text = text;
            this.match = match;
            this.mask = mask;
            this.pattern = pattern;
            this.act = act;
            this.sub = sub;
        }

        boolean endsBlock() {
            int op = match & MASK_OP;
            return op == 0x63 || op == 0x67 || op == 0x6f || op == 0x73 || op == 0x0f;
        }
    }

    /** What the computing instructions answer. */
    private static final class Alu {
        static final int ADD = 0;
        static final int SUB = 1;
        static final int SLL = 2;
        static final int SLT = 3;
        static final int SLTU = 4;
        static final int XOR = 5;
        static final int SRL = 6;
        static final int SRA = 7;
        static final int OR = 8;
        static final int AND = 9;
        static final int XNOR = 10;
        static final int ORN = 11;
        static final int ANDN = 12;
        static final int MUL = 13;
        static final int MULH = 14;
        static final int MULHSU = 15;
        static final int MULHU = 16;
        static final int DIV = 17;
        static final int DIVU = 18;
        static final int REM = 19;
        static final int REMU = 20;
        static final int SH1ADD = 21;
        static final int SH2ADD = 22;
        static final int SH3ADD = 23;
        static final int MIN = 24;
        static final int MINU = 25;
        static final int MAX = 26;
        static final int MAXU = 27;
        static final int CLMUL = 28;
        static final int CLMULR = 29;
        static final int CLMULH = 30;
        static final int ROL = 31;
        static final int ROR = 32;
        static final int BSET = 33;
        static final int BCLR = 34;
        static final int BEXT = 35;
        static final int BINV = 36;
        static final int CZERO_EQZ = 37;
        static final int CZERO_NEZ = 38;
        static final int CLZ = 39;
        static final int CTZ = 40;
        static final int CPOP = 41;
        static final int SEXT_B = 42;
        static final int SEXT_H = 43;
        static final int ZEXT_H = 44;
        static final int ORC_B = 45;
        static final int REV8 = 46;

        private Alu() {
        }

        static long wide(int sub, long a, long b) {
            int sh = (int) b & 63;
            switch (sub) {
                case ADD: return a + b;
                case SUB: return a - b;
                case SLL: return a << sh;
                case SLT: return a < b ? 1 : 0;
                case SLTU: return below(a, b) ? 1 : 0;
                case XOR: return a ^ b;
                case SRL: return a >>> sh;
                case SRA: return a >> sh;
                case OR: return a | b;
                case AND: return a & b;
                case XNOR: return a ^ ~b;
                case ORN: return a | ~b;
                case ANDN: return a & ~b;
                case SH1ADD: return b + (a << 1);
                case SH2ADD: return b + (a << 2);
                case SH3ADD: return b + (a << 3);
                case ROL: return a << sh | a >>> (64 - sh);
                case ROR: return a >>> sh | a << (64 - sh);
                case BSET: return a | 1L << sh;
                case BCLR: return a & ~(1L << sh);
                case BEXT: return a >>> sh & 1;
                case BINV: return a ^ 1L << sh;
                case CZERO_EQZ: return b == 0 ? 0 : a;
                case CZERO_NEZ: return b != 0 ? 0 : a;
                default: return rare(sub, a, b);
            }
        }

        private static long rare(int sub, long a, long b) {
            switch (sub) {
                case MUL: return a * b;
                case MULH: return highProduct(a, b) - (a < 0 ? b : 0) - (b < 0 ? a : 0);
                case MULHSU: return highProduct(a, b) - (a < 0 ? b : 0);
                case MULHU: return highProduct(a, b);
                case DIV: return b == 0 ? -1 : a / b;
                case DIVU: return b == 0 ? -1 : quotient(a, b);
                case REM: return b == 0 ? a : a % b;
                case REMU: return b == 0 ? a : a - quotient(a, b) * b;
                case MIN: return a < b ? a : b;
                case MINU: return below(a, b) ? a : b;
                case MAX: return a < b ? b : a;
                case MAXU: return below(a, b) ? b : a;
                case CLMUL: return plainProduct(a, b);
                case CLMULR: return highPlainProduct(a, b) << 1 | plainProduct(a, b) >>> 63;
                case CLMULH: return highPlainProduct(a, b);
                case CLZ: return leadingZeros(a);
                case CTZ: return Long.bitCount((a & -a) - 1);
                case CPOP: return Long.bitCount(a);
                case SEXT_B: return (byte) a;
                case SEXT_H: return (short) a;
                case ZEXT_H: return a & 0xffff;
                case ORC_B: return fullBytes(a);
                case REV8: return turnedBytes(a);
                default: return 0;
            }
        }

        static long narrow(int sub, int a, int b) {
            int sh = b & 31;
            long ua = a & LOW_WORD;
            long ub = b & LOW_WORD;
            switch (sub) {
                case ADD: return a + b;
                case SUB: return a - b;
                case SLL: return a << sh;
                case SRL: return a >>> sh;
                case SRA: return a >> sh;
                case ROL: return a << sh | a >>> (32 - sh);
                case ROR: return a >>> sh | a << (32 - sh);
                case MUL: return a * b;
                case DIV: return b == 0 ? -1 : a / b;
                case DIVU: return b == 0 ? -1 : (int) (ua / ub);
                case REM: return b == 0 ? a : a % b;
                case REMU: return b == 0 ? a : (int) (ua % ub);
                case CLZ: return leadingZeros(ua) - 32;
                case CTZ: return Integer.bitCount((a & -a) - 1);
                case CPOP: return Integer.bitCount(a);
                default: return 0;
            }
        }

        /** What 0x2f leaves in memory; of 32 bits both numbers are sign filled, which keeps their order. */
        static long mixed(int sub, long was, long b) {
            switch (sub) {
                case 0: return was + b;
                case 1: return b;
                case 4: return was ^ b;
                case 8: return was | b;
                case 12: return was & b;
                case 16: return was < b ? was : b;
                case 20: return was < b ? b : was;
                case 24: return below(was, b) ? was : b;
                default: return below(was, b) ? b : was;
            }
        }

        static boolean holds(int f3, long a, long b) {
            switch (f3) {
                case 0: return a == b;
                case 1: return a != b;
                case 4: return a < b;
                case 5: return a >= b;
                case 6: return below(a, b);
                default: return !below(a, b);
            }
        }

        static boolean below(long a, long b) {
            return a + LEAST < b + LEAST;
        }

        private static long highProduct(long a, long b) {
            long a0 = a & LOW_WORD;
            long a1 = a >>> 32;
            long b0 = b & LOW_WORD;
            long b1 = b >>> 32;
            long middle = a1 * b0 + (a0 * b0 >>> 32);
            long other = a0 * b1 + (middle & LOW_WORD);
            return a1 * b1 + (middle >>> 32) + (other >>> 32);
        }

        /** Without sign; b is not 0. */
        private static long quotient(long a, long b) {
            if (b <= 0) {
                return below(a, b) ? 0 : 1;
            }
            if (a >= 0) {
                return a / b;
            }
            long half = (a >>> 1) / b << 1;
            return below(a - half * b, b) ? half : half + 1;
        }

        private static long plainProduct(long a, long b) {
            long sum = 0;
            for (int i = 0; i < 64; i++) {
                sum ^= (b >>> i & 1) != 0 ? a << i : 0;
            }
            return sum;
        }

        private static long highPlainProduct(long a, long b) {
            long sum = 0;
            for (int i = 1; i < 64; i++) {
                sum ^= (b >>> i & 1) != 0 ? a >>> (64 - i) : 0;
            }
            return sum;
        }

        private static int leadingZeros(long a) {
            long filled = a;
            for (int by = 1; by < 64; by <<= 1) {
                filled |= filled >>> by;
            }
            return 64 - Long.bitCount(filled);
        }

        private static long fullBytes(long a) {
            long sum = 0;
            for (int shift = 0; shift < 64; shift += 8) {
                sum |= (a >>> shift & 255) != 0 ? 255L << shift : 0;
            }
            return sum;
        }

        private static long turnedBytes(long a) {
            long sum = 0;
            for (int shift = 0; shift < 64; shift += 8) {
                sum = sum << 8 | a >>> shift & 255;
            }
            return sum;
        }
    }

    /** Knows instructions by their bits, those of 16 bits too, and spells them. */
    private static final class Reader {
        private static final Op[] OPS = Op.values();

        private final int[] first = new int[256];
        private final int[] behind = new int[256];
        private final char[] text = new char[64];
        private int length;

        /** The table stands in the order of OP and f3, so that those of one pair are a row of it. */
        Reader() {
            for (int i = 0; i < OPS.length; i++) {
                Op op = OPS[i];
                for (int f3 = 0; f3 < 8 && op.act < ACT_SHORT; f3++) {
                    int row = (op.match >>> 2 & 31) * 8 + f3;
                    if (((op.match ^ f3 << 12) & op.mask & 0x7000) == 0) {
                        first[row] = behind[row] == 0 ? i : first[row];
                        behind[row] = i + 1;
                    }
                }
            }
        }

        /** Of a word of 32 bits; null when it is ILLEGAL. */
        Op find(int word) {
            int row = (word >>> 2 & 31) * 8 + (word >>> 12 & 7);
            for (int i = first[row]; i < behind[row]; i++) {
                if (((word ^ OPS[i].match) & OPS[i].mask) == 0) {
                    return OPS[i];
                }
            }
            return null;
        }

        /** The word of 32 bits that an instruction is; 0, which is none, when 16 bits are none. */
        int whole(int bits) {
            switch (bits & 3) {
                case 0: return firstQuarter(bits);
                case 1: return secondQuarter(bits);
                case 2: return thirdQuarter(bits);
                default: return bits;
            }
        }

        private static int firstQuarter(int c) {
            int p = 8 + (c >>> 7 & 7);
            int q = 8 + (c >>> 2 & 7);
            int middle = (c >>> 10 & 7) << 3;
            int four = middle | (c >>> 6 & 1) << 2 | (c >>> 5 & 1) << 6;
            int eight = middle | (c >>> 5 & 3) << 6;
            switch (c >>> 13 & 7) {
                case 0:
                    int n = (c >>> 6 & 1) << 2 | (c >>> 5 & 1) << 3 | (c >>> 11 & 3) << 4 | (c >>> 7 & 15) << 6;
                    return n == 0 ? 0 : immediate(0x13, 0, q, 2, n);
                case 2: return immediate(0x03, 2, q, p, four);
                case 3: return immediate(0x03, 3, q, p, eight);
                case 6: return storing(2, q, p, four);
                case 7: return storing(3, q, p, eight);
                default: return 0;
            }
        }

        private static int secondQuarter(int c) {
            int r = c >>> 7 & 31;
            int p = 8 + (c >>> 7 & 7);
            int i = (c >>> 2 & 31) - (c >>> 12 & 1) * 32;
            int n = stackDistance(c);
            switch (c >>> 13 & 7) {
                case 0: return immediate(0x13, 0, r, r, i);
                case 1: return r == 0 ? 0 : immediate(0x1b, 0, r, r, i);
                case 2: return immediate(0x13, 0, r, 0, i);
                case 3:
                    if (r == 2) {
                        return n == 0 ? 0 : immediate(0x13, 0, 2, 2, n);
                    }
                    return i == 0 ? 0 : i << 12 | r << 7 | 0x37;
                case 4: return middleComputing(c, i);
                case 5: return 0x6f | jumpField(farDistance(c));
                case 6: return 0x63 | p << 15 | branchField(nearDistance(c));
                default: return 0x1063 | p << 15 | branchField(nearDistance(c));
            }
        }

        private static int stackDistance(int c) {
            int n = (c >>> 6 & 1) << 4 | (c >>> 2 & 1) << 5 | (c >>> 5 & 1) << 6 | (c >>> 3 & 3) << 7;
            return n - ((c >>> 12 & 1) << 9);
        }

        private static int middleComputing(int c, int i) {
            int p = 8 + (c >>> 7 & 7);
            int pair = p << 7 | p << 15;
            int q = 8 + (c >>> 2 & 7) << 20;
            switch (c >>> 10 & 3) {
                case 0: return 0x00005013 | pair | (i & 63) << 20;
                case 1: return 0x40005013 | pair | (i & 63) << 20;
                case 2: return 0x00007013 | pair | i << 20;
                default: break;
            }
            switch ((c >>> 12 & 1) << 2 | c >>> 5 & 3) {
                case 0: return 0x40000033 | pair | q;
                case 1: return 0x00004033 | pair | q;
                case 2: return 0x00006033 | pair | q;
                case 3: return 0x00007033 | pair | q;
                case 4: return 0x4000003b | pair | q;
                case 5: return 0x0000003b | pair | q;
                default: return 0;
            }
        }

        private static int farDistance(int c) {
            int n = (c >>> 3 & 7) << 1 | (c >>> 11 & 1) << 4 | (c >>> 2 & 1) << 5 | (c >>> 7 & 1) << 6;
            n |= (c >>> 6 & 1) << 7 | (c >>> 9 & 3) << 8 | (c >>> 8 & 1) << 10;
            return n - ((c >>> 12 & 1) << 11);
        }

        private static int nearDistance(int c) {
            int n = (c >>> 3 & 3) << 1 | (c >>> 10 & 3) << 3 | (c >>> 2 & 1) << 5 | (c >>> 5 & 3) << 6;
            return n - ((c >>> 12 & 1) << 8);
        }

        private static int thirdQuarter(int c) {
            int r = c >>> 7 & 31;
            int t = c >>> 2 & 31;
            boolean high = (c >>> 12 & 1) != 0;
            int top = high ? 32 : 0;
            switch (c >>> 13 & 7) {
                case 0: return immediate(0x13, 1, r, r, t | top);
                case 2: return r == 0 ? 0 : immediate(0x03, 2, r, 2, t & 28 | top | (t & 3) << 6);
                case 3: return r == 0 ? 0 : immediate(0x03, 3, r, 2, t & 24 | top | (t & 7) << 6);
                case 4:
                    if (t != 0) {
                        return 0x33 | r << 7 | (high ? r : 0) << 15 | t << 20;
                    }
                    return r != 0 ? immediate(0x67, 0, high ? 1 : 0, r, 0) : high ? 0x00100073 : 0;
                case 6: return storing(2, t, 2, (c >>> 9 & 15) << 2 | (c >>> 7 & 3) << 6);
                case 7: return storing(3, t, 2, (c >>> 10 & 7) << 3 | (c >>> 7 & 7) << 6);
                default: return 0;
            }
        }

        private static int immediate(int op, int f3, int rd, int rs1, int n) {
            return op | rd << 7 | f3 << 12 | rs1 << 15 | n << 20;
        }

        private static int storing(int f3, int rs2, int rs1, int n) {
            return 0x23 | f3 << 12 | rs1 << 15 | rs2 << 20 | storeField(n);
        }

        static int storeField(int n) {
            return (n & 31) << 7 | (n >>> 5 & 127) << 25;
        }

        static int branchField(int n) {
            return (n >>> 1 & 15) << 8 | (n >>> 5 & 63) << 25 | (n >>> 11 & 1) << 7 | (n >>> 12 & 1) << 31;
        }

        static int jumpField(int n) {
            return (n >>> 1 & 1023) << 21 | (n >>> 11 & 1) << 20 | (n >>> 12 & 255) << 12 | (n >>> 20 & 1) << 31;
        }

        static int storeNumber(int word) {
            return word >> 25 << 5 | word >>> 7 & 31;
        }

        static int branchNumber(int word) {
            return word >> 31 << 12 | (word >>> 7 & 1) << 11 | (word >>> 25 & 63) << 5 | (word >>> 8 & 15) << 1;
        }

        static int jumpNumber(int word) {
            return word >> 31 << 20 | (word >>> 12 & 255) << 12 | (word >>> 20 & 1) << 11 | (word >>> 21 & 1023) << 1;
        }

        /** The i-th sign of what was spelled last. */
        int spelled(int i) {
            return i < 0 || i >= length ? NONE : text[i];
        }

        void spell(int bits, int bytes) {
            length = 0;
            int word = (bits & 3) == 3 && bytes == 2 ? 0 : whole(bits);
            Op op = find(word);
            if (op == null) {
                putText(bytes == 4 ? ".word " : ".half ");
                putNumber(bits & LOW_WORD);
                return;
            }
            if (bytes == 2) {
                putText("c.");
            }
            putText(op.text);
            if (!op.pattern.isEmpty()) {
                put(' ');
            }
            for (int i = 0; i < op.pattern.length(); i++) {
                putOperand(op.pattern.charAt(i), word);
            }
        }

        private void putOperand(int p, int word) {
            switch (p) {
                case ',': putText(", "); break;
                case 'd': putRegister(word >>> 7); break;
                case 's': putRegister(word >>> 15); break;
                case 't': putRegister(word >>> 20); break;
                case 'i': putNumber(word >> 20); break;
                case 'k': putNumber(storeNumber(word)); break;
                case 'h': putNumber(word >>> 20 & 63); break;
                case 'w': putNumber(word >>> 20 & 31); break;
                case 'b': putDistance(branchNumber(word)); break;
                case 'j': putDistance(jumpNumber(word)); break;
                case 'u': putNumber(word >>> 12); break;
                case 'c': putNumber(word >>> 20); break;
                case 'z': putNumber(word >>> 15 & 31); break;
                default: put((char) p); break;
            }
        }

        private void putRegister(int field) {
            put('x');
            putNumber(field & 31);
        }

        private void putDistance(int n) {
            if (n >= 0) {
                put('+');
            }
            putNumber(n);
        }

        private void putNumber(long n) {
            if (n < 0) {
                put('-');
            }
            long left = n < 0 ? -n : n;
            long power = 1;
            for (int digits = 1; digits < 18 && power <= left / 10; digits++) {
                power *= 10;
            }
            for (int digits = 0; digits < 18 && power > 0; digits++) {
                put((char) ('0' + left / power % 10));
                power /= 10;
            }
        }

        private void putText(String words) {
            for (int i = 0; i < words.length(); i++) {
                put(words.charAt(i));
            }
        }

        private void put(char sign) {
            if (length < text.length) {
                text[length] = sign;
                length++;
            }
        }
    }

    /** All of a computer that a picture has. What is unused is always 0, so that two can be compared. */
    private static final class Body {
        /** A hart's row: x0 .. x31, then these, then its control registers. */
        static final int PC = 32;
        static final int MODE = 33;
        static final int GUEST = 34;
        static final int WAITS = 35;
        static final int HELD = 36;
        static final int HELD_SIZE = 37;
        static final int CSR = 38;
        static final int ROW = CSR + Csrs.SLOTS;

        /** The devices' cells, and what else there is one of in a computer. */
        static final int TIME = 0;
        static final int DOG = 1;
        static final int CHANCE = 2;
        static final int MSIP = 3;
        static final int COMPARE = 7;
        static final int PRIORITY = 11;
        static final int PENDING = 19;
        static final int SERVICE = 20;
        static final int ENABLED = 21;
        static final int THRESHOLD = 29;
        static final int ASKS = 37;
        static final int KEYS = 38;
        static final int FIRST_KEY = 39;
        static final int OUTPUTS = 55;
        static final int DISK_SECTOR = 56;
        static final int DISK_PLACE = 57;
        static final int DISK_STATUS = 58;
        static final int COPY_FROM = 59;
        static final int COPY_TO = 60;
        static final int COPY_COUNT = 61;
        static final int COPY_STATUS = 62;
        static final int WIRES = 63;
        static final int TURN = 64;
        static final int IS_OFF = 65;
        static final int CODE = 66;
        static final int CELLS = 67;

        int harts = 1;
        int pages = 1;
        final long[] ram = new long[MOST_PAGES * PAGE / 8];
        final long[] regs = new long[MOST_HARTS * ROW];
        final long[] dev = new long[CELLS];
        final long[] out = new long[Devices.MOST_OUTPUT / 8];
        final long[] disk = new long[Devices.SECTORS * Devices.SECTOR / 8];

        void begin(int newHarts, int newPages) {
            harts = newHarts;
            pages = newPages;
            Arrays.fill(ram, 0L);
            Arrays.fill(dev, 0L);
            Arrays.fill(out, 0L);
            Arrays.fill(disk, 0L);
            restart();
        }

        void restart() {
            long time = dev[TIME];
            long wires = dev[WIRES];
            long outputs = dev[OUTPUTS];
            Arrays.fill(regs, 0L);
            Arrays.fill(dev, 0L);
            dev[TIME] = time;
            dev[WIRES] = wires;
            dev[OUTPUTS] = outputs;
            dev[CHANCE] = 1;
            for (int h = 0; h < MOST_HARTS; h++) {
                dev[COMPARE + h] = -1L;
                regs[h * ROW + PC] = RAM_START;
                regs[h * ROW + MODE] = MODE_M;
            }
        }

        void copyAll(Body from) {
            copyButRam(from);
            System.arraycopy(from.ram, 0, ram, 0, ram.length);
        }

        void copyButRam(Body from) {
            harts = from.harts;
            pages = from.pages;
            System.arraycopy(from.regs, 0, regs, 0, regs.length);
            System.arraycopy(from.dev, 0, dev, 0, dev.length);
            System.arraycopy(from.out, 0, out, 0, out.length);
            System.arraycopy(from.disk, 0, disk, 0, disk.length);
        }

        void copyPage(Body from, int page) {
            System.arraycopy(from.ram, page * (PAGE / 8), ram, page * (PAGE / 8), PAGE / 8);
        }

        boolean isSame(Body other) {
            return harts == other.harts && pages == other.pages
                    && same(regs, other.regs, 0, regs.length) && same(dev, other.dev, 0, dev.length)
                    && same(out, other.out, 0, out.length) && same(disk, other.disk, 0, disk.length)
                    && same(ram, other.ram, 0, ram.length);
        }

        boolean hasSamePage(Body other, int page) {
            return same(ram, other.ram, page * (PAGE / 8), PAGE / 8);
        }

        private static boolean same(long[] a, long[] b, int from, int length) {
            for (int i = from; i < from + length; i++) {
                if (a[i] != b[i]) {
                    return false;
                }
            }
            return true;
        }

        boolean hasHart(int h) {
            return h >= 0 && h < harts;
        }

        /** Where in RAM a row of bytes begins; NONE when it isn't wholly there. */
        int offset(long place, long length) {
            long from = place - RAM_START;
            long bytes = pages * (long) PAGE;
            boolean inside = length >= 0 && length <= bytes && from >= 0 && from <= bytes - length;
            return inside ? (int) from : NONE;
        }

        /** Of a row that does not cross a multiple of 8: 1, 2, 4 or 8 bytes, aligned. */
        long load(int from, int size) {
            long word = ram[from >>> 3] >>> ((from & 7) << 3);
            return size == 8 ? word : word & (1L << (size << 3)) - 1;
        }

        void store(int from, int size, long value) {
            int shift = (from & 7) << 3;
            long mask = size == 8 ? -1L : (1L << (size << 3)) - 1;
            ram[from >>> 3] = ram[from >>> 3] & ~(mask << shift) | (value & mask) << shift;
        }

        /** Of any place, an odd one too. */
        int halfAt(int from) {
            return byteOf(ram, from) | byteOf(ram, from + 1) << 8;
        }

        static int byteOf(long[] row, int i) {
            return (int) (row[i >>> 3] >>> ((i & 7) << 3)) & 255;
        }

        static void setByte(long[] row, int i, int b) {
            int shift = (i & 7) << 3;
            row[i >>> 3] = row[i >>> 3] & ~(255L << shift) | (b & 255L) << shift;
        }
    }

    /** The BOOK of blocks, and what each store into RAM does beside storing. */
    private static final class Book {
        private static final int MOST_BLOCKS = 32;
        private static final int MOST_LENGTH = 16;

        private final Body body;
        private final Reader reader;
        private final int[] places = new int[MOST_BLOCKS];
        private final int[] lengths = new int[MOST_BLOCKS];
        private int size;
        private long hits;
        private long made;
        private long dropped;
        /** Of each hart: its block's place, the next place in it, and how many instructions are left. */
        private final int[] blocks = new int[MOST_HARTS];
        private final int[] nexts = new int[MOST_HARTS];
        private final int[] lefts = new int[MOST_HARTS];
        /** The pages that were stored into, a bit each; who moves the computer takes them. */
        int touched;

        Book(Body body, Reader reader) {
            this.body = body;
            this.reader = reader;
        }

        void begin() {
            clear();
            hits = 0;
            made = 0;
            dropped = 0;
            touched = 0;
        }

        void clear() {
            size = 0;
            leaveAll();
        }

        void leaveAll() {
            Arrays.fill(lefts, 0);
        }

        void leave(int h) {
            lefts[h] = 0;
        }

        long nextOf(int h) {
            return lefts[h] == 0 ? NONE : RAM_START + nexts[h];
        }

        long tell(int what) {
            switch (what) {
                case 0: return size;
                case 1: return hits;
                case 2: return made;
                case 3: return dropped;
                default: break;
            }
            int k = (what - 4) / 2;
            if (what < 4 || k >= size) {
                return NONE;
            }
            return (what & 1) == 0 ? RAM_START + places[k] : lengths[k];
        }

        /** A hart goes on in its block if it can: whether it could. */
        boolean follows(int h, int at, int bytes) {
            if (lefts[h] == 0 || nexts[h] != at) {
                return false;
            }
            lefts[h]--;
            nexts[h] = at + bytes;
            return true;
        }

        int find(int at) {
            for (int k = 0; k < size; k++) {
                if (places[k] == at) {
                    return k;
                }
            }
            return NONE;
        }

        /** How many instructions a block at a place would have. */
        int measure(int at) {
            int end = (at | PAGE - 1) + 1;
            int from = at;
            for (int n = 0; n < MOST_LENGTH; n++) {
                int half = from + 2 > end ? 0 : (int) body.load(from, 2);
                int bytes = (half & 3) == 3 ? 4 : 2;
                if (from + bytes > end) {
                    return n;
                }
                int bits = bytes == 4 ? half | (int) body.load(from + 2, 2) << 16 : half;
                Op op = reader.find(reader.whole(bits));
                if (op == null) {
                    return n;
                }
                if (op.endsBlock()) {
                    return n + 1;
                }
                from += bytes;
            }
            return MOST_LENGTH;
        }

        /** A hart comes to a block that the book has (k), or that is of so many instructions (k NONE). */
        void enter(int h, int at, int bytes, int k, int length) {
            int instructions = length;
            if (k != NONE) {
                hits++;
                instructions = lengths[k];
            } else if (length > 0) {
                if (size == MOST_BLOCKS) {
                    remove(0);
                }
                places[size] = at;
                lengths[size] = length;
                size++;
                made++;
            }
            blocks[h] = at;
            nexts[h] = at + bytes;
            lefts[h] = instructions > 0 ? instructions - 1 : 0;
        }

        private void remove(int k) {
            int place = places[k];
            size--;
            System.arraycopy(places, k + 1, places, k, size - k);
            System.arraycopy(lengths, k + 1, lengths, k, size - k);
            dropped++;
            for (int h = 0; h < MOST_HARTS; h++) {
                if (blocks[h] == place) {
                    lefts[h] = 0;
                }
            }
        }

        /** What is told of a store, by a hart or (NONE) from outside. */
        void touch(int from, int length, int byHart) {
            if (length <= 0) {
                return;
            }
            int last = from + length - 1;
            for (int h = 0; h < MOST_HARTS; h++) {
                int row = h * Body.ROW;
                long held = body.regs[row + Body.HELD] - RAM_START >> 6;
                boolean here = held >= from >> 6 && held <= last >> 6;
                if (h != byHart && here && body.regs[row + Body.HELD_SIZE] != 0) {
                    body.regs[row + Body.HELD] = 0;
                    body.regs[row + Body.HELD_SIZE] = 0;
                }
            }
            for (int page = from >> 12; page <= last >> 12; page++) {
                touched |= 1 << page;
                for (int k = size - 1; k >= 0; k--) {
                    if (places[k] >> 12 == page) {
                        remove(k);
                    }
                }
            }
        }
    }

    /** What was done: counts that stay for ever, the TRACE, and the record if there is one. */
    private static final class Journal {
        private static final int MOST_INPUTS = 200;
        private static final int MOST_RECORDED = 10000;
        private static final int MOST_TRACED = 32;
        private static final int TRACED_FIELDS = 4;

        long stepsEver;
        long instructions;
        long traps;
        private final long[] traced = new long[MOST_TRACED * TRACED_FIELDS];
        private int tracedSize;
        private int tracedNext;
        /** The record: its beginning, its steps, and the inputs with how many steps were done ahead of each. */
        boolean on;
        Body start;
        int steps;
        int size;
        final int[] stepsAhead = new int[MOST_INPUTS];
        final int[] kinds = new int[MOST_INPUTS];
        final long[] numbers = new long[MOST_INPUTS];
        final int[] values = new int[MOST_INPUTS];

        void begin() {
            stepsEver = 0;
            instructions = 0;
            traps = 0;
            tracedSize = 0;
            tracedNext = 0;
            on = false;
        }

        void noteTrace(int hart, long pc, long bits, int cause) {
            int row = tracedNext * TRACED_FIELDS;
            traced[row] = hart;
            traced[row + 1] = pc;
            traced[row + 2] = bits;
            traced[row + 3] = cause;
            tracedNext = (tracedNext + 1) % MOST_TRACED;
            tracedSize = Math.min(tracedSize + 1, MOST_TRACED);
        }

        long tellTrace(int i, int what) {
            if (i < 0 || i >= tracedSize || what < 0 || what >= TRACED_FIELDS) {
                return NONE;
            }
            int row = (tracedNext - 1 - i + MOST_TRACED) % MOST_TRACED;
            return traced[row * TRACED_FIELDS + what];
        }

        void beginRecord(Body body) {
            if (start == null) {
                start = new Body();
            }
            start.copyAll(body);
            on = true;
            steps = 0;
            size = 0;
        }

        /** Whether there was room for an input; without a record there always is. */
        boolean note(int kind, long number, int value) {
            if (!on) {
                return true;
            }
            if (size >= MOST_INPUTS) {
                return false;
            }
            stepsAhead[size] = steps;
            kinds[size] = kind;
            numbers[size] = number;
            values[size] = value;
            size++;
            return true;
        }

        void grow() {
            if (on) {
                steps++;
                on = steps <= MOST_RECORDED;
            }
        }

        /** The inputs behind a step are forgotten; they stand in the order in which they came. */
        void cut(int goal) {
            steps = goal;
            int stays = 0;
            while (stays < size && stepsAhead[stays] < goal) {
                stays++;
            }
            size = stays;
        }
    }

    /** The devices' registers. A code is a register's cell, or one of those below that do more. */
    private static final class Devices {
        static final int SECTORS = 32;
        static final int SECTOR = 64;
        static final int MOST_OUTPUT = 512;
        private static final int MOST_KEYS = 16;
        private static final int MOST_COPIED = 4096;
        private static final int SOURCES = 8;

        private static final int POWER = 100;
        private static final int LINE = 101;
        private static final int LINE_STATE = 102;
        private static final int DISK_COMMAND = 103;
        private static final int COPY_COMMAND = 104;
        private static final int CLAIM = 110;

        static final int POWER_OFF = 1;
        static final int POWER_RESET = 2;

        private final Body body;
        private final Book book;
        /** What POWER was told in this step, and the code that goes with it. */
        int power;
        int powerCode;

        Devices(Body body, Book book) {
            this.body = body;
            this.book = book;
        }

        /** A RESET. */
        void restart() {
            body.restart();
            book.leaveAll();
            latch();
        }

        /** The DOG is looked at: whether it makes a RESET. */
        boolean dogBites() {
            if (body.dev[Body.DOG] == 0) {
                return false;
            }
            body.dev[Body.DOG]--;
            return body.dev[Body.DOG] == 0;
        }

        boolean hasRoomForKey() {
            return body.dev[Body.KEYS] < MOST_KEYS;
        }

        void addKey(int c) {
            if (hasRoomForKey()) {
                body.dev[Body.FIRST_KEY + (int) body.dev[Body.KEYS]] = c;
                body.dev[Body.KEYS]++;
            }
            latch();
        }

        void setWire(int source, boolean on) {
            long wire = 1L << source;
            body.dev[Body.WIRES] = on ? body.dev[Body.WIRES] | wire : body.dev[Body.WIRES] & ~wire;
            latch();
        }

        /** Sources whose wire is on come to be pending; called behind all that can turn a wire on. */
        private void latch() {
            long[] dev = body.dev;
            long wires = dev[Body.WIRES];
            wires |= dev[Body.KEYS] != 0 && dev[Body.ASKS] != 0 ? 2 : 0;
            wires |= dev[Body.DISK_STATUS] != 0 ? 4 : 0;
            wires |= dev[Body.COPY_STATUS] != 0 ? 8 : 0;
            dev[Body.PENDING] |= wires & ~dev[Body.SERVICE];
        }

        /** The source that a CLAIM for a context would find; 0 without one. */
        int claimable(int context) {
            long ready = body.dev[Body.PENDING] & body.dev[Body.ENABLED + context];
            int best = 0;
            long most = body.dev[Body.THRESHOLD + context];
            for (int s = 1; s < SOURCES && ready != 0; s++) {
                if ((ready >>> s & 1) != 0 && body.dev[Body.PRIORITY + s] > most) {
                    best = s;
                    most = body.dev[Body.PRIORITY + s];
                }
            }
            return best;
        }

        /** The code of the register that is just this place and size; NONE without one. */
        int registerAt(long place, int size) {
            if (place < 0x100000 || place > 0x10004000) {
                return NONE;
            }
            switch (size) {
                case 1: return byteAt((int) place);
                case 4: return wordAt((int) place);
                case 8: return longAt((int) place);
                default: return NONE;
            }
        }

        private static int byteAt(int place) {
            switch (place) {
                case 0x10000000: return LINE;
                case 0x10000001: return Body.ASKS;
                case 0x10000005: return LINE_STATE;
                default: return NONE;
            }
        }

        private int wordAt(int place) {
            switch (place) {
                case 0x100000: return POWER;
                case 0xc001000: return Body.PENDING;
                case 0x10001010: return DISK_COMMAND;
                case 0x10001014: return Body.DISK_STATUS;
                case 0x10002018: return COPY_COMMAND;
                case 0x1000201c: return Body.COPY_STATUS;
                default: break;
            }
            int contexts = 2 * body.harts;
            int code = inRow(place - 0x2000000, 4, body.harts, Body.MSIP);
            code = code != NONE ? code : inRow(place - 0xc000004, 4, SOURCES - 1, Body.PRIORITY + 1);
            code = code != NONE ? code : inRow(place - 0xc002000, 0x80, contexts, Body.ENABLED);
            code = code != NONE ? code : inRow(place - 0xc200000, 0x1000, contexts, Body.THRESHOLD);
            return code != NONE ? code : inRow(place - 0xc200004, 0x1000, contexts, CLAIM);
        }

        private int longAt(int place) {
            switch (place) {
                case 0x200bff8: return Body.TIME;
                case 0x10001000: return Body.DISK_SECTOR;
                case 0x10001008: return Body.DISK_PLACE;
                case 0x10002000: return Body.COPY_FROM;
                case 0x10002008: return Body.COPY_TO;
                case 0x10002010: return Body.COPY_COUNT;
                case 0x10003000: return Body.DOG;
                case 0x10004000: return Body.CHANCE;
                default: return inRow(place - 0x2004000, 8, body.harts, Body.COMPARE);
            }
        }

        private static int inRow(int from, int step, int count, int code) {
            return from >= 0 && from < step * count && from % step == 0 ? code + from / step : NONE;
        }

        long load(int code) {
            long[] dev = body.dev;
            switch (code) {
                case LINE: return takeKey();
                case LINE_STATE: return dev[Body.KEYS] != 0 ? 33 : 32;
                case POWER:
                case DISK_COMMAND:
                case COPY_COMMAND: return 0;
                case Body.CHANCE:
                    dev[Body.CHANCE] = dev[Body.CHANCE] * 6364136223846793005L + 1442695040888963407L;
                    return dev[Body.CHANCE];
                default: break;
            }
            if (code >= CLAIM) {
                int source = claimable(code - CLAIM);
                long bit = source == 0 ? 0 : 1L << source;
                dev[Body.PENDING] &= ~bit;
                dev[Body.SERVICE] |= bit;
                return source;
            }
            return dev[code];
        }

        private long takeKey() {
            long[] dev = body.dev;
            long c = dev[Body.FIRST_KEY];
            for (int k = Body.FIRST_KEY; k < Body.FIRST_KEY + MOST_KEYS - 1; k++) {
                dev[k] = dev[k + 1];
            }
            dev[Body.FIRST_KEY + MOST_KEYS - 1] = 0;
            dev[Body.KEYS] -= dev[Body.KEYS] > 0 ? 1 : 0;
            return c;
        }

        void store(int code, long value) {
            switch (code) {
                case POWER: tellPower((int) value); break;
                case LINE: addOutput((int) value); break;
                case LINE_STATE:
                case Body.PENDING: break;
                case DISK_COMMAND: body.dev[Body.DISK_STATUS] = disk((int) value) ? 1 : 2; break;
                case COPY_COMMAND: body.dev[Body.COPY_STATUS] = copied((int) value) ? 1 : 2; break;
                case Body.DISK_STATUS:
                case Body.COPY_STATUS: body.dev[code] = 0; break;
                default: storePlain(code, value); break;
            }
            latch();
        }

        private void storePlain(int code, long value) {
            if (code >= CLAIM) {
                long source = value & LOW_WORD;
                boolean real = source > 0 && source < SOURCES;
                long bit = real ? 1L << source & body.dev[Body.ENABLED + code - CLAIM] : 0;
                body.dev[Body.SERVICE] &= ~bit;
            } else if (code >= Body.ENABLED && code < Body.THRESHOLD) {
                body.dev[code] = value & 0xfe;
            } else if (code >= Body.PRIORITY && code < Body.ASKS) {
                body.dev[code] = value & 7;
            } else if (code == Body.ASKS || code >= Body.MSIP && code < Body.COMPARE) {
                body.dev[code] = value & 1;
            } else {
                body.dev[code] = value;
            }
        }

        private void tellPower(int value) {
            int low = value & 0xffff;
            power = low == 0x5555 || low == 0x3333 ? POWER_OFF : low == 0x7777 ? POWER_RESET : 0;
            powerCode = low == 0x3333 ? value >>> 16 : 0;
        }

        private void addOutput(int b) {
            int n = (int) body.dev[Body.OUTPUTS];
            if (n < MOST_OUTPUT) {
                Body.setByte(body.out, n, b);
                body.dev[Body.OUTPUTS]++;
            }
        }

        private boolean disk(int command) {
            long sector = body.dev[Body.DISK_SECTOR];
            int at = body.offset(body.dev[Body.DISK_PLACE], SECTOR);
            if (at == NONE || sector < 0 || sector >= SECTORS || command != 1 && command != 2) {
                return false;
            }
            int from = (int) sector * SECTOR;
            for (int i = 0; i < SECTOR; i++) {
                if (command == 1) {
                    Body.setByte(body.ram, at + i, Body.byteOf(body.disk, from + i));
                } else {
                    Body.setByte(body.disk, from + i, Body.byteOf(body.ram, at + i));
                }
            }
            book.touch(at, command == 1 ? SECTOR : 0, NONE);
            return true;
        }

        private boolean copied(int command) {
            long count = body.dev[Body.COPY_COUNT];
            if (count < 0 || count > MOST_COPIED || command != 1 && command != 2) {
                return false;
            }
            int to = body.offset(body.dev[Body.COPY_TO], count);
            int from = body.offset(body.dev[Body.COPY_FROM], count);
            if (to == NONE || command == 1 && from == NONE) {
                return false;
            }
            int b = (int) body.dev[Body.COPY_FROM];
            for (int i = 0; i < count; i++) {
                Body.setByte(body.ram, to + i, command == 1 ? Body.byteOf(body.ram, from + i) : b);
            }
            book.touch(to, (int) count, NONE);
            return true;
        }
    }

    /** The control registers: who may have them, how they are read and written, what interrupts. */
    private static final class Csrs {
        static final int SLOTS = 66;

        private static final int[] NUMBERS = {
            0x300, 0x301, 0x302, 0x303, 0x304, 0x305, 0x306, 0x320, 0x340, 0x341, 0x342, 0x343, 0x344, 0x34a, 0x34b,
            0x3a0, 0x3b0, 0x3b1, 0x3b2, 0x3b3, 0x3b4, 0x3b5, 0x3b6, 0x3b7, 0xb00, 0xb02, 0xc00, 0xc01, 0xc02,
            0xf11, 0xf12, 0xf13, 0xf14, 0xf15,
            0x100, 0x104, 0x105, 0x106, 0x140, 0x141, 0x142, 0x143, 0x144, 0x180,
            0x600, 0x602, 0x603, 0x604, 0x605, 0x606, 0x607, 0x643, 0x644, 0x645, 0x64a, 0x680, 0xe12,
            0x200, 0x204, 0x205, 0x240, 0x241, 0x242, 0x243, 0x244, 0x280};

        /** Which bits a plain write changes, in the order of NUMBERS; the others have rules of their own. */
        private static final long[] WRITABLE = {
            0xc0007e19aaL, 0, 0xf0b7ff, 0x222, 0xeee, ~2L, 7, 5, -1L, ~1L, -1L, -1L, 0, -1L, -1L,
            0, 0, 0, 0, 0, 0, 0, 0, 0, -1L, -1L, 0, 0, 0,
            0, 0, 0, 0, 0,
            0, 0, ~2L, 7, -1L, ~1L, -1L, -1L, 0, 0,
            0x7003c0, 0xb1ff, 0x444, 0, -1L, 7, 0, -1L, 0, 0x444, -1L, 0, 0,
            0xc0122, 0, ~2L, -1L, ~1L, -1L, -1L, 0, 0};

        /** In which order interrupts that go to the same mode are taken. */
        private static final int[] ORDER = {11, 3, 7, 9, 1, 5, 10, 2, 6};

        static final int MSTATUS = Body.CSR;
        static final int MEDELEG = Body.CSR + 2;
        static final int MIDELEG = Body.CSR + 3;
        static final int MIE = Body.CSR + 4;
        static final int MTVEC = Body.CSR + 5;
        static final int MCOUNTEREN = Body.CSR + 6;
        static final int MCOUNTINHIBIT = Body.CSR + 7;
        static final int MEPC = Body.CSR + 9;
        static final int MCAUSE = Body.CSR + 10;
        static final int MTVAL = Body.CSR + 11;
        static final int MIP = Body.CSR + 12;
        static final int MTINST = Body.CSR + 13;
        static final int MTVAL2 = Body.CSR + 14;
        static final int PMPCFG = Body.CSR + 15;
        static final int PMPADDR = Body.CSR + 16;
        static final int MCYCLE = Body.CSR + 24;
        static final int MINSTRET = Body.CSR + 25;
        static final int STVEC = Body.CSR + 36;
        static final int SCOUNTEREN = Body.CSR + 37;
        static final int SEPC = Body.CSR + 39;
        static final int SCAUSE = Body.CSR + 40;
        static final int STVAL = Body.CSR + 41;
        static final int SATP = Body.CSR + 43;
        static final int HSTATUS = Body.CSR + 44;
        static final int HEDELEG = Body.CSR + 45;
        static final int HIDELEG = Body.CSR + 46;
        static final int HTIMEDELTA = Body.CSR + 48;
        static final int HCOUNTEREN = Body.CSR + 49;
        static final int HTVAL = Body.CSR + 51;
        static final int HVIP = Body.CSR + 53;
        static final int HTINST = Body.CSR + 54;
        static final int HGATP = Body.CSR + 55;
        static final int VSSTATUS = Body.CSR + 57;
        static final int VSTVEC = Body.CSR + 59;
        static final int VSEPC = Body.CSR + 61;
        static final int VSCAUSE = Body.CSR + 62;
        static final int VSTVAL = Body.CSR + 63;
        static final int VSATP = Body.CSR + 65;

        static final long SIE_BIT = 1L << 1;
        static final long MIE_BIT = 1L << 3;
        static final long SPIE_BIT = 1L << 5;
        static final long MPIE_BIT = 1L << 7;
        static final long SPP_BIT = 1L << 8;
        static final int MPP_SHIFT = 11;
        static final long MPP_BITS = 3L << MPP_SHIFT;
        static final long MPRV_BIT = 1L << 17;
        static final long SUM_BIT = 1L << 18;
        static final long MXR_BIT = 1L << 19;
        static final long TVM_BIT = 1L << 20;
        static final long TW_BIT = 1L << 21;
        static final long TSR_BIT = 1L << 22;
        static final long GVA_BIT = 1L << 38;
        static final long MPV_BIT = 1L << 39;
        /** Those of hstatus; VTVM, VTW and VTSR stand where TVM, TW and TSR stand in mstatus. */
        static final long HGVA_BIT = 1L << 6;
        static final long SPV_BIT = 1L << 7;
        static final long SPVP_BIT = 1L << 8;
        static final long HU_BIT = 1L << 9;

        private static final long SSTATUS_BITS = 0xc0122;
        private static final long S_LENGTH = 0x200000000L;
        private static final long M_LENGTHS = 0xa00000000L;
        private static final long MISA = 0x8000000000141187L;
        private static final long S_INTERRUPTS = 0x222;
        private static final long VS_INTERRUPTS = 0x444;
        private static final long VS_SOFTWARE = 4;
        private static final long PMPADDR_BITS = (1L << 54) - 1;
        private static final long HGATP_BITS = 0xf3fffffffffffffcL;

        private final Body body;
        private final Devices devices;

        Csrs(Body body, Devices devices) {
            this.body = body;
            this.devices = devices;
        }

        /** A register's place in a hart's row; NONE when there is no such number. */
        static int slotOf(int number) {
            for (int i = 0; i < SLOTS; i++) {
                if (NUMBERS[i] == number) {
                    return Body.CSR + i;
                }
            }
            return NONE;
        }

        /** The number of the register that is meant: a guest's own ones have others. */
        static int meant(int number, boolean guest) {
            return guest && number >> 8 == 1 && number != 0x106 ? number + 0x100 : number;
        }

        /** The cause of the trap that an access of a hart has, 0 when it may. */
        int refusal(int h, int number, boolean writes) {
            int row = h * Body.ROW;
            int mode = (int) body.regs[row + Body.MODE];
            boolean guest = body.regs[row + Body.GUEST] != 0;
            if (slotOf(number) == NONE || writes && number >> 10 == 3) {
                return ILLEGAL;
            }
            int least = number >> 8 & 3;
            int kind = number >> 8;
            if (guest && (kind == 6 || kind == 2 || kind == 1 && mode == MODE_U)) {
                return VIRTUAL;
            }
            int level = mode == MODE_S && !guest ? 2 : mode;
            if (least > level) {
                return ILLEGAL;
            }
            boolean traps = mode == MODE_S && (body.regs[row + (guest ? HSTATUS : MSTATUS)] & TVM_BIT) != 0;
            if (traps && (number == 0x180 || number == 0x680)) {
                return guest ? VIRTUAL : ILLEGAL;
            }
            return kind == 0xc ? counterRefusal(row, 1L << (number & 3), mode, guest) : 0;
        }

        private int counterRefusal(int row, long bit, int mode, boolean guest) {
            if (mode == MODE_M) {
                return 0;
            }
            if ((body.regs[row + MCOUNTEREN] & bit) == 0) {
                return ILLEGAL;
            }
            if (guest && (body.regs[row + HCOUNTEREN] & bit) == 0) {
                return VIRTUAL;
            }
            if (mode == MODE_U && (body.regs[row + SCOUNTEREN] & bit) == 0) {
                return guest ? VIRTUAL : ILLEGAL;
            }
            return 0;
        }

        long read(int h, int number, boolean guest) {
            int row = h * Body.ROW;
            long[] regs = body.regs;
            switch (number) {
                case 0x300: return regs[row + MSTATUS] | M_LENGTHS;
                case 0x301: return MISA;
                case 0x303: return delegated(row);
                case 0x344: return pending(h);
                case 0xc00: return regs[row + MCYCLE];
                case 0xc01: return body.dev[Body.TIME] + (guest ? regs[row + HTIMEDELTA] : 0);
                case 0xc02: return regs[row + MINSTRET];
                case 0xf14: return h;
                case 0x100: return regs[row + MSTATUS] & SSTATUS_BITS | S_LENGTH;
                case 0x104: return regs[row + MIE] & regs[row + MIDELEG];
                case 0x144: return pending(h) & regs[row + MIDELEG];
                case 0x600: return regs[row + HSTATUS] | S_LENGTH;
                case 0x604: return regs[row + MIE] & VS_INTERRUPTS;
                case 0x644: return regs[row + HVIP];
                case 0x200: return regs[row + VSSTATUS] | S_LENGTH;
                case 0x204: return (regs[row + MIE] & regs[row + HIDELEG]) >> 1;
                case 0x244: return (regs[row + HVIP] & regs[row + HIDELEG]) >> 1;
                default: break;
            }
            int slot = slotOf(number);
            return slot == NONE ? 0 : regs[row + slot];
        }

        /** How: 1 writes, 2 sets, 3 clears, from what was read; of mip from what was written to it alone. */
        void write(int h, int number, int how, long operand, long was) {
            int row = h * Body.ROW;
            long[] regs = body.regs;
            long base = number == 0x344 ? regs[row + MIP] | regs[row + HVIP] : was;
            long value = how == 1 ? operand : how == 2 ? base | operand : base & ~operand;
            switch (number) {
                case 0x300: writeStatus(row, value); return;
                case 0x344:
                    regs[row + MIP] = value & S_INTERRUPTS;
                    change(row + HVIP, VS_SOFTWARE, value);
                    return;
                case 0x3a0: writeProtection(row, value); return;
                case 0x100: change(row + MSTATUS, SSTATUS_BITS, value); return;
                case 0x104: change(row + MIE, regs[row + MIDELEG], value); return;
                case 0x144: change(row + MIP, 2 & regs[row + MIDELEG], value); return;
                case 0x180: writePaging(row + SATP, -1L, value); return;
                case 0x604: change(row + MIE, VS_INTERRUPTS, value); return;
                case 0x644: change(row + HVIP, VS_SOFTWARE, value); return;
                case 0x680: writePaging(row + HGATP, HGATP_BITS, value); return;
                case 0x204: change(row + MIE, regs[row + HIDELEG], value << 1); return;
                case 0x244: change(row + HVIP, VS_SOFTWARE & regs[row + HIDELEG], value << 1); return;
                case 0x280: writePaging(row + VSATP, -1L, value); return;
                default: break;
            }
            if (number >= 0x3b0 && number <= 0x3b7) {
                writeProtectedPlace(row, number - 0x3b0, value);
                return;
            }
            int slot = slotOf(number);
            if (slot != NONE) {
                change(row + slot, WRITABLE[slot - Body.CSR], value);
            }
        }

        private void change(int at, long bits, long value) {
            body.regs[at] = body.regs[at] & ~bits | value & bits;
        }

        private void writeStatus(int row, long value) {
            long bits = WRITABLE[0];
            boolean noMode = (value & MPP_BITS) == 2L << MPP_SHIFT;
            change(row + MSTATUS, noMode ? bits & ~MPP_BITS : bits, value);
        }

        private void writePaging(int at, long bits, long value) {
            long kind = value >>> 60;
            if (kind == 0 || kind == 8) {
                change(at, bits, value);
            }
        }

        private void writeProtection(int row, long value) {
            for (int shift = 0; shift < 64; shift += 8) {
                long was = body.regs[row + PMPCFG] >>> shift & 255;
                long now = value >>> shift & 0x9f;
                if ((was & 128) == 0 && (now & 3) != 2) {
                    change(row + PMPCFG, 255L << shift, now << shift);
                }
            }
        }

        private void writeProtectedPlace(int row, int entry, long value) {
            long own = body.regs[row + PMPCFG] >>> (entry * 8);
            long above = entry < 7 ? body.regs[row + PMPCFG] >>> (entry * 8 + 8) : 0;
            boolean locked = (own & 128) != 0 || (above & 0x98) == 0x88;
            if (!locked) {
                change(row + PMPADDR + entry, PMPADDR_BITS, value);
            }
        }

        private long delegated(int row) {
            return body.regs[row + MIDELEG] | VS_INTERRUPTS;
        }

        boolean isDelegated(int row, int number) {
            return (delegated(row) >>> number & 1) != 0;
        }

        /** mip, as it is read. */
        long pending(int h) {
            int row = h * Body.ROW;
            long[] dev = body.dev;
            long bits = body.regs[row + MIP] | body.regs[row + HVIP] | dev[Body.MSIP + h] << 3;
            bits |= Alu.below(dev[Body.TIME], dev[Body.COMPARE + h]) ? 0 : 1L << 7;
            bits |= devices.claimable(2 * h) != 0 ? 1L << 11 : 0;
            bits |= devices.claimable(2 * h + 1) != 0 ? 1L << 9 : 0;
            return bits;
        }

        /** The number of the interrupt that is due, of those that are pending and enabled; or NONE. */
        int dueInterrupt(int row, long ready) {
            if (ready == 0) {
                return NONE;
            }
            int mode = (int) body.regs[row + Body.MODE];
            boolean guest = body.regs[row + Body.GUEST] != 0;
            long status = body.regs[row + MSTATUS];
            long toMachine = ready & ~delegated(row);
            if (toMachine != 0 && (mode != MODE_M || (status & MIE_BIT) != 0)) {
                return foremost(toMachine);
            }
            long hidden = body.regs[row + HIDELEG];
            long toSupervisor = ready & delegated(row) & ~hidden;
            if (toSupervisor != 0
                    && (guest || mode == MODE_U || mode == MODE_S && (status & SIE_BIT) != 0)) {
                return foremost(toSupervisor);
            }
            long toGuest = ready & delegated(row) & hidden;
            boolean open = mode == MODE_U || (body.regs[row + VSSTATUS] & SIE_BIT) != 0;
            return toGuest != 0 && guest && open ? foremost(toGuest) : NONE;
        }

        private static int foremost(long bits) {
            for (int i = 0; i < ORDER.length; i++) {
                if ((bits >>> ORDER[i] & 1) != 0) {
                    return ORDER[i];
                }
            }
            return NONE;
        }
    }

    /** Where an access goes: paging in one or two stages, protection, then RAM or a device's register. */
    private static final class Mmu {
        static final int FETCH = 0;
        static final int LOAD = 1;
        static final int STORE = 2;

        private static final int ENTRY = 8;
        private static final long VALID = 1;
        private static final long READ = 2;
        private static final long WRITE = 4;
        private static final long EXECUTE = 8;
        private static final long USER = 16;
        private static final long ACCESSED = 64;
        private static final long DIRTY = 128;
        private static final long PLACES = (1L << 44) - 1;
        private static final int[] ACCESS_FAULTS = {1, 5, 7};
        private static final int[] PAGE_FAULTS = {12, 13, 15};
        private static final int[] GUEST_FAULTS = {20, 21, 23};

        private final Body body;
        private final Devices devices;
        private int row;
        private int kind;
        private int mode;
        boolean guest;
        /** hlvx: a load that must be allowed as a fetch in the tables. */
        private boolean byExecute;
        private long entry;
        /** What find() found: a place and where in RAM that is (NONE: a device's register), or a fault. */
        long place;
        int offset;
        int device;
        int size;
        int cause;
        long second;

        Mmu(Body body, Devices devices) {
            this.body = body;
            this.devices = devices;
        }

        /** The next access is one of a hart as it is now. */
        void aim(int h, int what) {
            row = h * Body.ROW;
            kind = what;
            byExecute = false;
            mode = (int) body.regs[row + Body.MODE];
            guest = body.regs[row + Body.GUEST] != 0;
            long status = body.regs[row + Csrs.MSTATUS];
            if (what != FETCH && mode == MODE_M && (status & Csrs.MPRV_BIT) != 0) {
                mode = (int) (status >>> Csrs.MPP_SHIFT) & 3;
                guest = mode != MODE_M && (status & Csrs.MPV_BIT) != 0;
            }
        }

        /** The next access is one of hlv, hlvx or hsv. */
        void aimAtGuest(int h, int what, boolean executes) {
            row = h * Body.ROW;
            kind = what;
            byExecute = executes;
            guest = true;
            mode = (body.regs[row + Csrs.HSTATUS] & Csrs.SPVP_BIT) != 0 ? MODE_S : MODE_U;
        }

        boolean find(long at, int bytes, boolean ramOnly) {
            cause = NONE;
            second = 0;
            size = bytes;
            long root = body.regs[row + (guest ? Csrs.VSATP : Csrs.SATP)];
            boolean paged = root >>> 60 == 8 && (guest || mode != MODE_M);
            long found = paged ? firstStage(at, root) : at;
            if (guest && cause == NONE) {
                found = secondStage(found, kind, byExecute);
            }
            if (cause != NONE) {
                return false;
            }
            place = found;
            offset = body.offset(found, bytes);
            boolean ramMeant = ramOnly || kind == FETCH || offset != NONE;
            device = ramMeant ? NONE : devices.registerAt(found, bytes);
            if (!isAllowed(found, bytes, mode, kind) || offset == NONE && device == NONE) {
                cause = ACCESS_FAULTS[kind];
            }
            return cause == NONE;
        }

        private long firstStage(long at, long root) {
            long table = (root & PLACES) << 12;
            boolean inside = at << 25 >> 25 == at;
            long status = body.regs[row + Csrs.MSTATUS];
            long own = guest ? body.regs[row + Csrs.VSSTATUS] : status;
            boolean executes = ((status | own) & Csrs.MXR_BIT) != 0;
            boolean strict = mode == MODE_S && (kind == FETCH || (own & Csrs.SUM_BIT) == 0);
            for (int level = 2; level >= 0 && inside; level--) {
                long spot = table + (at >>> 12 + 9 * level & 511) * ENTRY;
                if (guest) {
                    spot = secondStage(spot, LOAD, false);
                }
                if (cause != NONE || !readsEntry(spot) || isBroken(level)) {
                    break;
                }
                boolean user = (entry & USER) != 0;
                if (isLeaf()) {
                    if (leafAllows(level, kind, byExecute, executes) && !(user ? strict : mode == MODE_U)) {
                        return leafPlace(at, level);
                    }
                    break;
                }
                table = (entry >>> 10 & PLACES) << 12;
            }
            cause = cause == NONE ? PAGE_FAULTS[kind] : cause;
            return 0;
        }

        /** A guest's address; what is done there may be another thing than what the hart means to do. */
        private long secondStage(long at, int what, boolean executesOnly) {
            long root = body.regs[row + Csrs.HGATP];
            if (root >>> 60 != 8) {
                return at;
            }
            long table = (root & PLACES) << 12;
            boolean inside = at >>> 41 == 0;
            boolean executes = (body.regs[row + Csrs.MSTATUS] & Csrs.MXR_BIT) != 0;
            for (int level = 2; level >= 0 && inside; level--) {
                long index = at >>> 12 + 9 * level & (level == 2 ? 2047 : 511);
                if (!readsEntry(table + index * ENTRY) || isBroken(level)) {
                    break;
                }
                if (isLeaf()) {
                    if (leafAllows(level, what, executesOnly, executes) && (entry & USER) != 0) {
                        return leafPlace(at, level);
                    }
                    break;
                }
                table = (entry >>> 10 & PLACES) << 12;
            }
            if (cause == NONE) {
                cause = GUEST_FAULTS[kind];
                second = at;
            }
            return 0;
        }

        private boolean readsEntry(long spot) {
            int from = body.offset(spot, ENTRY);
            if (from == NONE || !isAllowed(spot, ENTRY, MODE_S, LOAD)) {
                cause = ACCESS_FAULTS[kind];
                return false;
            }
            entry = body.load(from, ENTRY);
            return true;
        }

        private boolean isLeaf() {
            return (entry & (READ | EXECUTE)) != 0;
        }

        private boolean isBroken(int level) {
            boolean odd = (entry & VALID) == 0 || (entry & (READ | WRITE)) == WRITE || entry >>> 54 != 0;
            boolean branch = (entry & (READ | EXECUTE)) == 0;
            return odd || branch && (level == 0 || (entry & (DIRTY | ACCESSED | USER)) != 0);
        }

        private boolean leafAllows(int level, int what, boolean executesOnly, boolean executes) {
            long needs = what == FETCH ? EXECUTE : what == STORE ? WRITE : READ;
            boolean may = (entry & needs) != 0;
            if (what == LOAD) {
                boolean canExecute = (entry & EXECUTE) != 0;
                may = executesOnly ? canExecute : may || executes && canExecute;
            }
            boolean whole = (entry >>> 10 & (1L << 9 * level) - 1) == 0;
            boolean used = (entry & ACCESSED) != 0 && (what != STORE || (entry & DIRTY) != 0);
            return may && whole && used;
        }

        private long leafPlace(long at, int level) {
            return (entry >>> 10 & PLACES) << 12 | at & (1L << 12 + 9 * level) - 1;
        }

        /** PROTECTION of a physical access. */
        private boolean isAllowed(long at, int bytes, int who, int what) {
            long rules = body.regs[row + Csrs.PMPCFG];
            if ((rules & 0x1818181818181818L) == 0) {
                return true;
            }
            // No entry reaches as far as such places.
            boolean far = at >>> 60 != 0;
            long below = 0;
            for (int i = 0; i < 8 && !far; i++) {
                long rule = rules >>> i * 8;
                long own = body.regs[row + Csrs.PMPADDR + i];
                int shape = (int) (rule >>> 3) & 3;
                long low = own << 2;
                long high = low + 4;
                if (shape == 1) {
                    high = low;
                    low = below << 2;
                } else if (shape == 3) {
                    long ones = own ^ own + 1;
                    low = (own & ~ones) << 2;
                    high = low + (ones + 1 << 2);
                }
                below = own;
                if (shape != 0 && at < high && at + bytes > low && low < high) {
                    boolean all = at >= low && at + bytes <= high;
                    boolean free = who == MODE_M && (rule & 128) == 0;
                    return all && (free || (rule >>> (what == FETCH ? 2 : what == LOAD ? 0 : 1) & 1) != 0);
                }
            }
            return who == MODE_M;
        }
    }

    /** Does the steps of a computer. */
    private static final class Core {
        private static final int WROTE_CYCLES = 1;
        private static final int WROTE_RETIRED = 2;

        private final Body body;
        private final Book book;
        private final Devices devices;
        private final Csrs csrs;
        private final Mmu mmu;
        private final Reader reader;
        private final Journal journal;
        private int hart;
        private int row;
        private long next;
        private int bits;
        private int word;
        private int bytes;
        private int wrote;
        /** The trap that the instruction has: NONE, or a cause with what goes with it. */
        private int cause;
        private long value;
        private long second;
        private boolean byGuest;
        /** Where in RAM the hart itself stored in this step, how many bytes. */
        int storedAt;
        int stored;

        Core(Body body, Book book, Devices devices, Csrs csrs, Mmu mmu, Reader reader, Journal journal) {
            this.body = body;
            this.book = book;
            this.devices = devices;
            this.csrs = csrs;
            this.mmu = mmu;
            this.reader = reader;
            this.journal = journal;
        }

        /** One step; what is done again for a record is not told (counts, trace and book stay). */
        void step(boolean told) {
            stored = 0;
            wrote = 0;
            devices.power = 0;
            journal.stepsEver += told ? 1 : 0;
            body.dev[Body.TIME]++;
            if (devices.dogBites()) {
                devices.restart();
                return;
            }
            hart = (int) body.dev[Body.TURN];
            row = hart * Body.ROW;
            setTrap(NONE, 0, false);
            long ready = csrs.pending(hart) & body.regs[row + Csrs.MIE];
            int number = csrs.dueInterrupt(row, ready);
            boolean acts = ready != 0 || body.regs[row + Body.WAITS] == 0;
            if (number != NONE) {
                body.regs[row + Body.WAITS] = 0;
                trap(number, true);
                journal.traps += told ? 1 : 0;
            } else if (acts) {
                body.regs[row + Body.WAITS] = 0;
                Op op = fetch(told);
                if (op != null) {
                    perform(op);
                }
                if (op != null && cause == NONE && op.act >= ACT_LOAD) {
                    reach(op);
                    transfer(op);
                }
                settle(told);
            }
            end(acts, acts && number == NONE && cause == NONE);
        }

        private void setTrap(int number, long what, boolean guests) {
            cause = number;
            value = what;
            second = 0;
            byGuest = guests;
        }

        /** The instruction at pc; null when a trap comes in its place. */
        private Op fetch(boolean told) {
            long pc = body.regs[row + Body.PC];
            bits = 0;
            bytes = 2;
            mmu.aim(hart, Mmu.FETCH);
            if (!mmu.find(pc, 2, true)) {
                faultAt(pc);
                return null;
            }
            int at = mmu.offset;
            int low = (int) body.load(at, 2);
            if ((low & 3) == 3) {
                bytes = 4;
                if (!mmu.find(pc + 2, 2, true)) {
                    faultAt(pc + 2);
                    return null;
                }
                low |= (int) body.load(mmu.offset, 2) << 16;
            }
            bits = low;
            next = pc + bytes;
            word = reader.whole(bits);
            if (told && !book.follows(hart, at, bytes)) {
                int k = book.find(at);
                book.enter(hart, at, bytes, k, k == NONE ? book.measure(at) : 0);
            }
            Op op = reader.find(word);
            if (op == null) {
                refuse(ILLEGAL);
            }
            return op;
        }

        private void faultAt(long at) {
            setTrap(mmu.cause, at, mmu.guest);
            second = mmu.second;
        }

        private void refuse(int number) {
            setTrap(number, bits & LOW_WORD, false);
        }

        private long x(int shift) {
            return body.regs[row + (word >>> shift & 31)];
        }

        private void setRd(long number) {
            int rd = word >>> 7 & 31;
            if (rd != 0) {
                body.regs[row + rd] = number;
            }
        }

        /** All of an instruction but its access to memory. */
        private void perform(Op op) {
            long pc = body.regs[row + Body.PC];
            switch (op.act) {
                case ACT_LUI: setRd(word & 0xfffff000); break;
                case ACT_AUIPC: setRd(pc + (word & 0xfffff000)); break;
                case ACT_JAL:
                    setRd(next);
                    next = pc + Reader.jumpNumber(word);
                    break;
                case ACT_JALR:
                    long to = x(15) + (word >> 20) & ~1L;
                    setRd(next);
                    next = to;
                    break;
                case ACT_BRANCH:
                    if (Alu.holds(op.sub, x(15), x(20))) {
                        next = pc + Reader.branchNumber(word);
                    }
                    break;
                case ACT_FENCE: break;
                case ACT_SYSTEM: system(op.sub); break;
                case ACT_CSR: swapControl(); break;
                case ACT_HLV:
                case ACT_HSV: checkGuestAccess(); break;
                default:
                    if (op.act < ACT_LUI) {
                        compute(op);
                    }
                    break;
            }
        }

        private void compute(Op op) {
            long a = (op.act & ACT_ALU_U) != 0 ? x(15) & LOW_WORD : x(15);
            long b = (op.act & ACT_ALU_I) != 0 ? word >> 20 : x(20);
            boolean narrow = (op.act & ACT_ALU_W) != 0;
            setRd(narrow ? Alu.narrow(op.sub, (int) a, (int) b) : Alu.wide(op.sub, a, b));
        }

        private boolean has(int register, long bit) {
            return (body.regs[row + register] & bit) != 0;
        }

        private int mode() {
            return (int) body.regs[row + Body.MODE];
        }

        private boolean isGuest() {
            return body.regs[row + Body.GUEST] != 0;
        }

        private void system(int sub) {
            int refusal = systemRefusal(sub, mode(), isGuest());
            if (refusal != 0) {
                refuse(refusal);
                return;
            }
            switch (sub) {
                case SYS_ECALL: setTrap(mode() == MODE_S && isGuest() ? 10 : 8 + mode(), 0, false); break;
                case SYS_EBREAK: setTrap(3, body.regs[row + Body.PC], isGuest()); break;
                case SYS_SRET: returnToLower(); break;
                case SYS_MRET: returnFromMachine(); break;
                case SYS_WFI: body.regs[row + Body.WAITS] = 1; break;
                default: break;
            }
        }

        /** The cause of the trap that comes in an instruction's place; 0 when it may be done. */
        private int systemRefusal(int sub, int mode, boolean guest) {
            int status = guest ? Csrs.HSTATUS : Csrs.MSTATUS;
            boolean barred = false;
            switch (sub) {
                case SYS_MRET: return mode == MODE_M ? 0 : ILLEGAL;
                case SYS_SRET: barred = has(status, Csrs.TSR_BIT); break;
                case SYS_SFENCE: barred = has(status, Csrs.TVM_BIT); break;
                case SYS_WFI:
                    if (mode != MODE_M && has(Csrs.MSTATUS, Csrs.TW_BIT)) {
                        return ILLEGAL;
                    }
                    barred = has(status, Csrs.TW_BIT);
                    break;
                case SYS_HFENCE_V: barred = guest; break;
                case SYS_HFENCE_G: barred = guest || has(status, Csrs.TVM_BIT); break;
                default: return 0;
            }
            boolean refused = mode == MODE_U || mode == MODE_S && barred;
            return !refused ? 0 : guest ? VIRTUAL : ILLEGAL;
        }

        private void checkGuestAccess() {
            if (isGuest()) {
                refuse(VIRTUAL);
            } else if (mode() == MODE_U && !has(Csrs.HSTATUS, Csrs.HU_BIT)) {
                refuse(ILLEGAL);
            }
        }

        private void swapControl() {
            int how = word >>> 12 & 3;
            int field = word >>> 15 & 31;
            int number = word >>> 20;
            boolean writes = how == 1 || field != 0;
            int refusal = csrs.refusal(hart, number, writes);
            if (refusal != 0) {
                refuse(refusal);
                return;
            }
            int meant = Csrs.meant(number, isGuest());
            long operand = (word >>> 14 & 1) != 0 ? field : x(15);
            long was = csrs.read(hart, meant, isGuest());
            if (writes) {
                csrs.write(hart, meant, how, operand, was);
                wrote = meant == 0xb00 ? WROTE_CYCLES : meant == 0xb02 ? WROTE_RETIRED : 0;
            }
            setRd(was);
        }

        /** Looks for the place that an instruction accesses. */
        private void reach(Op op) {
            boolean guests = op.act == ACT_HLV || op.act == ACT_HSV;
            boolean loads = op.act == ACT_LOAD || op.act == ACT_LR || op.act == ACT_HLV;
            int kind = loads ? Mmu.LOAD : Mmu.STORE;
            int size = 1 << (guests ? op.sub & 3 : word >>> 12 & 3);
            long at = x(15);
            if (guests) {
                mmu.aimAtGuest(hart, kind, (op.sub & 8) != 0);
            } else {
                mmu.aim(hart, kind);
                at += op.act == ACT_LOAD ? word >> 20 : op.act == ACT_STORE ? Reader.storeNumber(word) : 0;
            }
            boolean atomic = op.act == ACT_LR || op.act == ACT_SC || op.act == ACT_AMO;
            if ((at & size - 1) != 0) {
                setTrap(loads ? 4 : 6, at, mmu.guest);
            } else if (!mmu.find(at, size, atomic)) {
                faultAt(at);
            }
        }

        /** The access to the place that was found: what is loaded, then what is stored. */
        private void transfer(Op op) {
            if (cause != NONE) {
                return;
            }
            boolean stores = op.act == ACT_STORE || op.act == ACT_HSV || op.act == ACT_AMO;
            long number = x(20);
            switch (op.act) {
                case ACT_STORE:
                case ACT_HSV: break;
                case ACT_LR:
                    setRd(loadFound(true));
                    body.regs[row + Body.HELD] = mmu.place;
                    body.regs[row + Body.HELD_SIZE] = mmu.size;
                    break;
                case ACT_SC:
                    stores = body.regs[row + Body.HELD] == mmu.place && body.regs[row + Body.HELD_SIZE] == mmu.size;
                    letGo();
                    setRd(stores ? 0 : 1);
                    break;
                case ACT_AMO:
                    long was = loadFound(true);
                    number = Alu.mixed(op.sub, was, mmu.size == 4 ? (int) number : number);
                    setRd(was);
                    break;
                default: setRd(loadFound((op.sub & 4) == 0)); break;
            }
            if (stores && mmu.offset == NONE) {
                devices.store(mmu.device, number);
            } else if (stores) {
                storedAt = mmu.offset;
                stored = mmu.size;
                body.store(storedAt, stored, number);
                book.touch(storedAt, stored, hart);
            }
        }

        private long loadFound(boolean signed) {
            long found = mmu.offset != NONE ? body.load(mmu.offset, mmu.size) : devices.load(mmu.device);
            int shift = 64 - mmu.size * 8;
            return signed ? found << shift >> shift : found << shift >>> shift;
        }

        private void letGo() {
            body.regs[row + Body.HELD] = 0;
            body.regs[row + Body.HELD_SIZE] = 0;
        }

        /** Behind an instruction: it is done, or trapped. */
        private void settle(boolean told) {
            if (told) {
                journal.noteTrace(hart, body.regs[row + Body.PC], bits & LOW_WORD, cause);
                journal.traps += cause == NONE ? 0 : 1;
                journal.instructions += cause == NONE ? 1 : 0;
            }
            if (cause == NONE) {
                body.regs[row + Body.PC] = next;
            } else {
                trap(cause, false);
            }
        }

        /** Counters grow, the turn goes on, and what POWER was told is done. */
        private void end(boolean acted, boolean retired) {
            long inhibited = body.regs[row + Csrs.MCOUNTINHIBIT];
            if (acted && (inhibited & 1) == 0 && wrote != WROTE_CYCLES) {
                body.regs[row + Csrs.MCYCLE]++;
            }
            if (retired && (inhibited & 4) == 0 && wrote != WROTE_RETIRED) {
                body.regs[row + Csrs.MINSTRET]++;
            }
            body.dev[Body.TURN] = hart + 1 < body.harts ? hart + 1 : 0;
            if (devices.power == Devices.POWER_RESET) {
                devices.restart();
            } else if (devices.power == Devices.POWER_OFF) {
                body.dev[Body.IS_OFF] = 1;
                body.dev[Body.CODE] = devices.powerCode;
            }
        }

        private void trap(int number, boolean interrupt) {
            long[] regs = body.regs;
            boolean below = mode() != MODE_M;
            boolean asked = interrupt ? csrs.isDelegated(row, number) : has(Csrs.MEDELEG, 1L << number);
            boolean toLower = below && asked;
            boolean toGuest = toLower && isGuest() && has(interrupt ? Csrs.HIDELEG : Csrs.HEDELEG, 1L << number);
            long told = interrupt ? LEAST | (toGuest ? number - 1 : number) : number;
            letGo();
            book.leave(hart);
            int vector = Csrs.MTVEC;
            if (toGuest) {
                vector = Csrs.VSTVEC;
                trapToGuest(told);
            } else if (toLower) {
                vector = Csrs.STVEC;
                trapToSupervisor(told);
            } else {
                trapToMachine(told);
            }
            long to = regs[row + vector];
            long far = interrupt && (to & 1) != 0 ? (told & 63) * 4 : 0;
            regs[row + Body.PC] = (to & ~1L) + far;
        }

        private static long with(long number, long bit, boolean on) {
            return on ? number | bit : number & ~bit;
        }

        private void trapToMachine(long told) {
            long[] regs = body.regs;
            regs[row + Csrs.MEPC] = regs[row + Body.PC];
            regs[row + Csrs.MCAUSE] = told;
            regs[row + Csrs.MTVAL] = value;
            regs[row + Csrs.MTVAL2] = second >>> 2;
            regs[row + Csrs.MTINST] = 0;
            long status = regs[row + Csrs.MSTATUS] & ~Csrs.MPP_BITS | (long) mode() << Csrs.MPP_SHIFT;
            status = with(status, Csrs.MPV_BIT, isGuest());
            status = with(status, Csrs.GVA_BIT, byGuest);
            status = with(status, Csrs.MPIE_BIT, (status & Csrs.MIE_BIT) != 0);
            regs[row + Csrs.MSTATUS] = status & ~Csrs.MIE_BIT;
            regs[row + Body.GUEST] = 0;
            regs[row + Body.MODE] = MODE_M;
        }

        private void trapToSupervisor(long told) {
            long[] regs = body.regs;
            regs[row + Csrs.SEPC] = regs[row + Body.PC];
            regs[row + Csrs.SCAUSE] = told;
            regs[row + Csrs.STVAL] = value;
            regs[row + Csrs.HTVAL] = second >>> 2;
            regs[row + Csrs.HTINST] = 0;
            long host = with(regs[row + Csrs.HSTATUS], Csrs.SPV_BIT, isGuest());
            host = isGuest() ? with(host, Csrs.SPVP_BIT, mode() != MODE_U) : host;
            regs[row + Csrs.HSTATUS] = with(host, Csrs.HGVA_BIT, byGuest);
            regs[row + Csrs.MSTATUS] = trappedStatus(regs[row + Csrs.MSTATUS]);
            regs[row + Body.GUEST] = 0;
            regs[row + Body.MODE] = MODE_S;
        }

        private void trapToGuest(long told) {
            long[] regs = body.regs;
            regs[row + Csrs.VSEPC] = regs[row + Body.PC];
            regs[row + Csrs.VSCAUSE] = told;
            regs[row + Csrs.VSTVAL] = value;
            regs[row + Csrs.VSSTATUS] = trappedStatus(regs[row + Csrs.VSSTATUS]);
            regs[row + Body.MODE] = MODE_S;
        }

        private long trappedStatus(long was) {
            long status = with(was, Csrs.SPP_BIT, mode() != MODE_U);
            status = with(status, Csrs.SPIE_BIT, (status & Csrs.SIE_BIT) != 0);
            return status & ~Csrs.SIE_BIT;
        }

        private void returnFromMachine() {
            long[] regs = body.regs;
            long status = regs[row + Csrs.MSTATUS];
            long mode = status >>> Csrs.MPP_SHIFT & 3;
            regs[row + Body.MODE] = mode;
            regs[row + Body.GUEST] = mode != MODE_M && (status & Csrs.MPV_BIT) != 0 ? 1 : 0;
            status = with(status, Csrs.MIE_BIT, (status & Csrs.MPIE_BIT) != 0) | Csrs.MPIE_BIT;
            status &= ~(Csrs.MPP_BITS | Csrs.MPV_BIT);
            regs[row + Csrs.MSTATUS] = mode != MODE_M ? status & ~Csrs.MPRV_BIT : status;
            next = regs[row + Csrs.MEPC];
            letGo();
        }

        private void returnToLower() {
            long[] regs = body.regs;
            boolean guest = isGuest();
            int at = row + (guest ? Csrs.VSSTATUS : Csrs.MSTATUS);
            long status = regs[at];
            regs[row + Body.MODE] = (status & Csrs.SPP_BIT) != 0 ? MODE_S : MODE_U;
            if (!guest) {
                regs[row + Body.GUEST] = has(Csrs.HSTATUS, Csrs.SPV_BIT) ? 1 : 0;
                regs[row + Csrs.HSTATUS] &= ~Csrs.SPV_BIT;
            }
            status = with(status, Csrs.SIE_BIT, (status & Csrs.SPIE_BIT) != 0) | Csrs.SPIE_BIT;
            regs[at] = status & ~(Csrs.SPP_BIT | Csrs.MPRV_BIT);
            next = regs[row + (guest ? Csrs.VSEPC : Csrs.SEPC)];
            letGo();
        }
    }

    /** One computer with all that belongs to it, also what its pictures don't have. */
    private static final class Computer {
        static final int MARK_PC = 0;
        static final int MARK_STORE = 1;

        final Body body = new Body();
        final Journal journal = new Journal();
        final Book book;
        final Devices devices;
        final Csrs csrs;
        final Mmu mmu;
        final Core core;
        boolean here;
        /** The mark at which it is STOPPED, or NONE; and whether marks of pc are aside for a step. */
        int stop;
        boolean aside;
        final int[] markKind = new int[MOST_MARKS];
        final long[] markPlace = new long[MOST_MARKS];
        /** Of a move: the new computer, as the old one knows it, and the old one, as the new one does. */
        Computer target;
        Computer source;
        /** Of a move to this one: which pages are due, and which of those to be sent will be lost. */
        int due;
        long lost;

        Computer(Reader reader) {
            book = new Book(body, reader);
            devices = new Devices(body, book);
            csrs = new Csrs(body, devices);
            mmu = new Mmu(body, devices);
            core = new Core(body, book, devices, csrs, mmu, reader, journal);
        }

        void begin(int harts, int pages) {
            body.begin(harts, pages);
            book.begin();
            journal.begin();
            here = true;
            release();
            Arrays.fill(markKind, NONE);
            target = null;
            source = null;
            due = 0;
            lost = 0;
        }

        int status() {
            if (source != null) {
                return MOVED;
            }
            if (body.dev[Body.IS_OFF] != 0) {
                return OFF;
            }
            return stop != NONE ? STOPPED : RUNNING;
        }

        /** It is STOPPED no more. */
        void release() {
            stop = NONE;
            aside = false;
        }

        long tell(int what) {
            switch (what) {
                case 0: return status();
                case 1: return body.dev[Body.CODE];
                case 2: return body.harts;
                case 3: return body.pages;
                case 4: return body.dev[Body.TURN];
                case 5: return journal.stepsEver;
                case 6: return journal.instructions;
                case 7: return journal.traps;
                case 8: return stop;
                default: return NONE;
            }
        }

        long tellHart(int h, int what) {
            int row = h * Body.ROW;
            switch (what) {
                case 0: return body.regs[row + Body.MODE] + 4 * body.regs[row + Body.GUEST];
                case 1: return body.regs[row + Body.PC];
                case 2: return body.regs[row + Body.WAITS];
                case 3: return body.regs[row + Body.HELD_SIZE] == 0 ? NONE : body.regs[row + Body.HELD] & ~63L;
                case 4: return book.nextOf(h);
                default: return NONE;
            }
        }

        /** Whether a mark of pc stops it ahead of the next step. */
        boolean stopsAhead() {
            int row = (int) body.dev[Body.TURN] * Body.ROW;
            if (aside || body.regs[row + Body.WAITS] != 0) {
                return false;
            }
            for (int k = 0; k < MOST_MARKS && stop == NONE; k++) {
                if (markKind[k] == MARK_PC && markPlace[k] == body.regs[row + Body.PC]) {
                    stop = k;
                }
            }
            return stop != NONE;
        }

        /** What a step brings with it: records grow, marks of RAM stop, going OFF ends a move. */
        void lookBehind() {
            aside = false;
            journal.grow();
            for (int k = 0; k < MOST_MARKS && stop == NONE && core.stored > 0; k++) {
                long from = markPlace[k] - RAM_START - core.storedAt;
                if (markKind[k] == MARK_STORE && from >= 0 && from < core.stored) {
                    stop = k;
                }
            }
            if (body.dev[Body.IS_OFF] != 0) {
                breakMoves();
            }
        }

        void accept(int kind, long number, int value) {
            switch (kind) {
                case INPUT_KEY: devices.addKey((int) number); break;
                case INPUT_WIRE: devices.setWire((int) number, value != 0); break;
                case INPUT_TIME: body.dev[Body.TIME] = number; break;
                default:
                    Body.setByte(body.ram, (int) number, value);
                    book.touch((int) number, 1, NONE);
                    break;
            }
        }

        /** The inputs of a record from one on come that came when so many steps were done: which is next. */
        int feed(Journal from, int first, int steps) {
            int k = first;
            while (k < from.size && from.stepsAhead[k] <= steps) {
                accept(from.kinds[k], from.numbers[k], from.values[k]);
                k++;
            }
            return k;
        }

        /** Moves from here or to here are broken off: the new computer is gone. */
        void breakMoves() {
            if (target != null) {
                target.here = false;
                target.source = null;
                target = null;
            }
            if (source != null) {
                source.target = null;
                source = null;
                here = false;
            }
        }

        /** A ROUND of a move to this computer: how many pages were sent. */
        int sendPages(int most) {
            if (source == null) {
                return 0;
            }
            due |= source.book.touched;
            source.book.touched = 0;
            int again = 0;
            int sent = 0;
            for (int page = 0; page < body.pages && sent < most; page++) {
                if ((due >>> page & 1) != 0) {
                    if ((lost & 1) != 0) {
                        again |= 1 << page;
                    } else {
                        body.copyPage(source.body, page);
                    }
                    lost >>>= 1;
                    due &= ~(1 << page);
                    sent++;
                }
            }
            due |= again;
            return sent;
        }

        /** A move to this computer is FINISHED, all pages being here. */
        void takeOver() {
            if (source == null) {
                return;
            }
            body.copyButRam(source.body);
            source.body.dev[Body.IS_OFF] = 1;
            source.body.dev[Body.CODE] = 0;
            source.release();
            source.journal.on = false;
            source.target = null;
            source = null;
            journal.on = false;
            release();
        }
    }

    /** Makes bytes of the tape. Its lines are read three times: for labels' places, for faults, for bytes. */
    private static final class Assembler {
        private static final int MOST_SIGNS = 4000;
        private static final int MOST_LABELS = 100;
        private static final int MOST_NAME = 8;
        private static final int MOST_DATA = 16;
        private static final int MOST_ZEROS = 4096;
        private static final int MOST_ALIGNED = 12;
        private static final int LINE_END = 10;
        static final int FOR_PLACES = 0;
        static final int FOR_FAULTS = 1;
        static final int FOR_BYTES = 2;
        private static final String REGISTERS =
                "zero ra sp gp tp t0 t1 t2 s0 s1 a0 a1 a2 a3 a4 a5 a6 a7 s2 s3 s4 s5 s6 s7 s8 s9 s10 s11 t3 t4 t5 t6 ";

        int size;
        private final byte[] tape = new byte[MOST_SIGNS];
        private final int[] labelFrom = new int[MOST_LABELS];
        private final int[] labelLength = new int[MOST_LABELS];
        private final long[] labelPlace = new long[MOST_LABELS];
        private int labels;
        /** Whether labels' places are known, and where bytes go to (null: nowhere). */
        private boolean asks;
        private Body target;
        private long place;
        private long limit;
        /** The next sign to be read, and the word that was read last: at a line's end one of no signs. */
        private int at;
        private int from;
        private int till;
        private int fault;
        /** Of the statement: its word so far, how many bytes, and its last number (if it is known). */
        private int word;
        private int length;
        private long number;
        private boolean known;

        void take(int sign) {
            if ((sign == LINE_END || sign >= 32 && sign <= 126) && size < MOST_SIGNS) {
                tape[size] = (byte) sign;
                size++;
            }
        }

        /** Reads the tape once more; bytes go to a computer when there was no fault. */
        void read(Body body, long start, int purpose) {
            asks = purpose != FOR_PLACES;
            labels = asks ? labels : 0;
            target = purpose == FOR_BYTES ? body : null;
            limit = RAM_START + body.pages * (long) PAGE;
            place = start;
            at = purpose == FOR_BYTES && fault != NONE ? size + 1 : 0;
            for (int line = 0; line <= MOST_SIGNS && at <= size; line++) {
                fault = NONE;
                length = 0;
                if (readLabels()) {
                    readStatement();
                }
                if (fault != NONE && asks) {
                    return;
                }
                place += fault == NONE ? length : 0;
                while (at < size && tape[at] != LINE_END) {
                    at++;
                }
                at++;
            }
        }

        /** How many bytes were made, or -1 minus the place of the first fault; the tape is empty then. */
        int answer(long start) {
            size = 0;
            return fault != NONE ? -1 - fault : (int) (place - start);
        }

        /** Whether a word that is no label's was read. */
        private boolean readLabels() {
            boolean more = nextWord();
            for (int n = 0; n <= MOST_SIGNS && more; n++) {
                if (!isName() || !takes(':')) {
                    return true;
                }
                int k = labelAt();
                if (k == NONE && !asks && labels < MOST_LABELS) {
                    labelFrom[labels] = from;
                    labelLength[labels] = till - from;
                    labelPlace[labels] = place;
                    labels++;
                } else if (k == NONE || labelFrom[k] != from) {
                    fault = from;
                    return false;
                }
                more = nextWord();
            }
            return more;
        }

        private void readStatement() {
            int start = from;
            Op op = opNamed();
            if (op == null) {
                fault = from;
                return;
            }
            word = op.match;
            switch (op.act) {
                case ACT_DATA: readData(op.sub); break;
                case ACT_ZERO: readSpace(MOST_ZEROS, false); break;
                case ACT_ALIGN: readSpace(MOST_ALIGNED, true); break;
                case ACT_ASCII: readSigns(); break;
                default: readOperands(op); break;
            }
            if (fault == NONE && nextWord()) {
                fault = from;
            }
            if (fault == NONE && length > limit - place) {
                fault = start;
            }
        }

        private Op opNamed() {
            for (int i = 0; i < Reader.OPS.length; i++) {
                if (isText(Reader.OPS[i].text)) {
                    return Reader.OPS[i];
                }
            }
            return null;
        }

        private boolean isText(String text) {
            if (text.length() != till - from) {
                return false;
            }
            for (int i = 0; i < text.length(); i++) {
                if (text.charAt(i) != tape[from + i]) {
                    return false;
                }
            }
            return true;
        }

        private void readData(int bytes) {
            for (int n = 1; n <= MOST_DATA; n++) {
                if (!nextWord() || !readNumber()) {
                    fault = from;
                    return;
                }
                put(number, bytes);
                if (n == MOST_DATA || !takes(',')) {
                    return;
                }
            }
        }

        private void readSpace(int most, boolean aligned) {
            if (!nextWord() || !readNumber() || known && (number < 0 || number > most)) {
                fault = from;
                return;
            }
            int zeros = !known ? 0 : aligned ? (int) (-place & (1L << number) - 1) : (int) number;
            for (int i = 0; i < zeros; i++) {
                put(0, 1);
            }
        }

        private void readSigns() {
            if (!nextWord() || tape[from] != '"') {
                fault = from;
                return;
            }
            while (at < size && tape[at] != '"' && tape[at] != LINE_END) {
                put(tape[at], 1);
                at++;
            }
            if (at >= size || tape[at] != '"') {
                fault = at;
                return;
            }
            at++;
        }

        private void readOperands(Op op) {
            for (int i = 0; i < op.pattern.length(); i++) {
                if (!nextWord() || !readOperand(op.pattern.charAt(i))) {
                    fault = from;
                    return;
                }
            }
            if (op.act == ACT_LI) {
                putSmallNumber();
            } else if (op.act == ACT_LA) {
                long far = number - place;
                int low = (int) far << 20 >> 20;
                int rd = word >>> 7 & 31;
                put(word | (int) (far - low), 4);
                put(0x13 | rd << 7 | rd << 15 | low << 20, 4);
            } else {
                put(word, 4);
            }
        }

        private void putSmallNumber() {
            int rd = word >>> 7 & 31;
            int low = (int) number << 20 >> 20;
            if (known && number == low) {
                put(word | low << 20, 4);
            } else {
                put(0x37 | rd << 7 | (int) number - low, 4);
                put(0x1b | rd << 7 | rd << 15 | low << 20, 4);
            }
        }

        /** One part of a pattern; the word becomes what it has of it. */
        private boolean readOperand(int part) {
            switch (part) {
                case ',':
                case '(':
                case ')': return tape[from] == part;
                case 'd': return readRegister(7);
                case 's': return readRegister(15);
                case 't': return readRegister(20);
                default: break;
            }
            if (!readNumber()) {
                return false;
            }
            long n = part == 'b' || part == 'j' || part == 'a' ? number - place : number;
            if (known && !isInRange(part, n)) {
                return false;
            }
            switch (part) {
                case 'k': word |= Reader.storeField((int) n); break;
                case 'b': word |= Reader.branchField((int) n); break;
                case 'j': word |= Reader.jumpField((int) n); break;
                case 'u': word |= (int) n << 12; break;
                case 'z': word |= (int) n << 15; break;
                case 'l':
                case 'a': break;
                default: word |= (int) n << 20; break;
            }
            return true;
        }

        private static boolean isInRange(int part, long n) {
            switch (part) {
                case 'i':
                case 'k': return n >= -2048 && n <= 2047;
                case 'h': return n >= 0 && n <= 63;
                case 'w':
                case 'z': return n >= 0 && n <= 31;
                case 'c': return n >= 0 && n <= 4095;
                case 'u': return n >= 0 && n <= 0xfffff;
                case 'b': return n >= -4096 && n <= 4094 && (n & 1) == 0;
                case 'j': return n >= -1048576 && n <= 1048574 && (n & 1) == 0;
                case 'a': return n >= -2147485696L && n <= 2147481599L;
                default: return n >= -2147483648L && n <= 2147483647L;
            }
        }

        private boolean readRegister(int shift) {
            int r = tape[from] == 'x' ? plainRegister() : namedRegister();
            if (r == NONE) {
                return false;
            }
            word |= r << shift;
            return true;
        }

        private int plainRegister() {
            int n = 0;
            for (int i = from + 1; i < till; i++) {
                int digit = tape[i] - '0';
                if (digit < 0 || digit > 9 || i > from + 1 && n == 0) {
                    return NONE;
                }
                n = n * 10 + digit;
                if (n > 31) {
                    return NONE;
                }
            }
            return till == from + 1 ? NONE : n;
        }

        private int namedRegister() {
            int r = 0;
            int same = 0;
            for (int i = 0; i < REGISTERS.length(); i++) {
                char sign = REGISTERS.charAt(i);
                if (sign == ' ') {
                    if (same == till - from) {
                        return r;
                    }
                    r++;
                    same = 0;
                } else {
                    boolean goesOn = same >= 0 && same < till - from && tape[from + same] == sign;
                    same = goesOn ? same + 1 : NONE;
                }
            }
            return NONE;
        }

        /** Whether the word is a number, or a label that is there as far as that is known. */
        private boolean readNumber() {
            known = true;
            if (isName()) {
                int k = asks ? labelAt() : NONE;
                known = k != NONE;
                number = known ? labelPlace[k] : 0;
                return known || !asks;
            }
            boolean negative = tape[from] == '-';
            boolean hex = till - from > 2 && tape[from] == '0' && tape[from + 1] == 'x';
            int first = negative ? from + 1 : hex ? from + 2 : from;
            if (first >= till || hex && till - first > 16) {
                return false;
            }
            number = 0;
            for (int i = first; i < till; i++) {
                int digit = digitOf(tape[i], hex);
                boolean tooMuch = !hex && (number > 922337203685477580L || number == 922337203685477580L && digit > 7);
                if (digit == NONE || tooMuch) {
                    return false;
                }
                number = hex ? number << 4 | digit : number * 10 + digit;
            }
            number = negative ? -number : number;
            return true;
        }

        private static int digitOf(int sign, boolean hex) {
            if (sign >= '0' && sign <= '9') {
                return sign - '0';
            }
            return hex && sign >= 'a' && sign <= 'f' ? sign - 'a' + 10 : NONE;
        }

        private boolean isName() {
            if (till - from > MOST_NAME || tape[from] >= '0' && tape[from] <= '9') {
                return false;
            }
            for (int i = from; i < till; i++) {
                int sign = tape[i];
                boolean letter = sign >= 'a' && sign <= 'z' || sign >= 'A' && sign <= 'Z' || sign == '_';
                if (!letter && (sign < '0' || sign > '9')) {
                    return false;
                }
            }
            return true;
        }

        /** Which label the word is. */
        private int labelAt() {
            for (int k = 0; k < labels; k++) {
                boolean same = labelLength[k] == till - from;
                for (int i = from; i < till && same; i++) {
                    same = tape[labelFrom[k] + i - from] == tape[i];
                }
                if (same) {
                    return k;
                }
            }
            return NONE;
        }

        private void put(long bytes, int count) {
            for (int i = 0; i < count; i++) {
                int to = target == null ? NONE : target.offset(place + length, 1);
                if (to != NONE && target != null) {
                    Body.setByte(target.ram, to, (int) (bytes >>> i * 8) & 255);
                }
                length++;
            }
        }

        /** Whether a sign is the next word, which is read then; the word that was read last stays. */
        private boolean takes(int sign) {
            int next = at;
            while (next < size && tape[next] == ' ') {
                next++;
            }
            if (next >= size || tape[next] != sign) {
                return false;
            }
            at = next + 1;
            return true;
        }

        /** Whether there is one more word in the line. */
        private boolean nextWord() {
            while (at < size && tape[at] == ' ') {
                at++;
            }
            from = at;
            till = at;
            if (at >= size || tape[at] == LINE_END || tape[at] == '#') {
                return false;
            }
            while (till < size && isPlain(tape[till])) {
                till++;
            }
            till = till == from ? from + 1 : till;
            at = till;
            return true;
        }

        private static boolean isPlain(int sign) {
            return sign > 32 && sign != ',' && sign != '(' && sign != ')' && sign != ':' && sign != '#' && sign != '"';
        }
    }
}
