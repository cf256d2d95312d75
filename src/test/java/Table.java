import java.util.ArrayList;
import java.util.List;

/** The document's instructions (terms 2 and 7) by their fields, written anew so that the program's table is held against it. */
final class Table {
    /** A word is the instruction when it has match's bits where mask has ones; the pattern tells its operands. */
    record Row(String name, int match, int mask, String pattern) {
    }

    static final List<Row> ROWS = new ArrayList<>();
    private static final int OP = 0x7f;
    private static final int F3 = 7 << 12;
    private static final int RD = 31 << 7;
    private static final int RS2 = 31 << 20;
    private static final int F5 = 31 << 27;
    private static final int F6 = 63 << 26;
    private static final int F7 = 127 << 25;
    private static final int F12 = 4095 << 20;

    static {
        add("d,u", OP, "lui", 0x37, "auipc", 0x17);
        add("d,j", OP, "jal", 0x6f);
        byF3("d,i(s)", 0x67, 0, "jalr");
        byF3("s,t,b", 0x63, 0, "beq", "bne", null, null, "blt", "bge", "bltu", "bgeu");
        byF3("d,i(s)", 0x03, 0, "lb", "lh", "lw", "ld", "lbu", "lhu", "lwu");
        byF3("t,k(s)", 0x23, 0, "sb", "sh", "sw", "sd");
        byF3("d,s,i", 0x13, 0, "addi", null, "slti", "sltiu", "xori", null, "ori", "andi");
        byF6(0x13, 1, "slli", 0, "bseti", 10, "bclri", 18, "binvi", 26);
        byF12(0x13, 1, "clz", 0x600, "ctz", 0x601, "cpop", 0x602, "sext.b", 0x604, "sext.h", 0x605);
        byF6(0x13, 5, "srli", 0, "srai", 16, "bexti", 18, "rori", 24);
        byF12(0x13, 5, "orc.b", 0x287, "rev8", 0x6b8);
        byF3("d,s,i", 0x1b, 0, "addiw");
        byF7("d,s,w", 0x1b, 1, "slliw", 0);
        byF6(0x1b, 1, "slli.uw", 2);
        byF12(0x1b, 1, "clzw", 0x600, "ctzw", 0x601, "cpopw", 0x602);
        byF7("d,s,w", 0x1b, 5, "srliw", 0, "sraiw", 32, "roriw", 48);
        threes(0x33, 0, "add", "sll", "slt", "sltu", "xor", "srl", "or", "and");
        threes(0x33, 32, "sub", null, null, null, "xnor", "sra", "orn", "andn");
        threes(0x33, 1, "mul", "mulh", "mulhsu", "mulhu", "div", "divu", "rem", "remu");
        threes(0x33, 16, null, null, "sh1add", null, "sh2add", null, "sh3add");
        threes(0x33, 5, null, "clmul", "clmulr", "clmulh", "min", "minu", "max", "maxu");
        threes(0x33, 48, null, "rol", null, null, null, "ror");
        threes(0x33, 20, null, "bset");
        threes(0x33, 36, null, "bclr", null, null, null, "bext");
        threes(0x33, 52, null, "binv");
        threes(0x33, 7, null, null, null, null, null, "czero.eqz", null, "czero.nez");
        threes(0x3b, 0, "addw", "sllw", null, null, null, "srlw");
        threes(0x3b, 32, "subw", null, null, null, null, "sraw");
        threes(0x3b, 1, "mulw", null, null, null, "divw", "divuw", "remw", "remuw");
        threes(0x3b, 4, "add.uw");
        byF12(0x3b, 4, "zext.h", 4 << 5);
        threes(0x3b, 16, null, null, "sh1add.uw", null, "sh2add.uw", null, "sh3add.uw");
        threes(0x3b, 48, null, "rolw", null, null, null, "rorw");
        atomics(".w", 2);
        atomics(".d", 3);
        byF3("", 0x0f, 0, "fence", "fence.i");
        add("", -1, "ecall", 0x00000073, "ebreak", 0x00100073, "sret", 0x10200073, "mret", 0x30200073, "wfi", 0x10500073);
        add("s,t", OP | F3 | F7 | RD, "sfence.vma", 9 << 25 | 0x73, "hfence.vvma", 17 << 25 | 0x73, "hfence.gvma", 49 << 25 | 0x73);
        guestLoads("hlv.b", 0x30, 0, "hlv.bu", 0x30, 1, "hlv.h", 0x32, 0, "hlv.hu", 0x32, 1, "hlvx.hu", 0x32, 3,
                "hlv.w", 0x34, 0, "hlv.wu", 0x34, 1, "hlvx.wu", 0x34, 3, "hlv.d", 0x36, 0);
        String[] stores = {"hsv.b", "hsv.h", "hsv.w", "hsv.d"};
        for (int i = 0; i < 4; i++) {
            add("t,(s)", OP | F3 | F7 | RD, stores[i], 0x31 + 2 * i << 25 | 4 << 12 | 0x73);
        }
        byF3("d,c,s", 0x73, 1, "csrrw", "csrrs", "csrrc");
        byF3("d,c,z", 0x73, 5, "csrrwi", "csrrsi", "csrrci");
    }

    private Table() {
    }

    private static void add(String pattern, int mask, Object... pairs) {
        for (int i = 0; i < pairs.length; i += 2) {
            ROWS.add(new Row((String) pairs[i], (Integer) pairs[i + 1], mask, pattern));
        }
    }

    private static void byF3(String pattern, int op, int first, String... names) {
        for (int i = 0; i < names.length; i++) {
            if (names[i] != null) {
                add(pattern, OP | F3, names[i], op | first + i << 12);
            }
        }
    }

    private static void byF6(int op, int f3, Object... pairs) {
        for (int i = 0; i < pairs.length; i += 2) {
            add("d,s,h", OP | F3 | F6, pairs[i], op | f3 << 12 | (Integer) pairs[i + 1] << 26);
        }
    }

    private static void byF7(String pattern, int op, int f3, Object... pairs) {
        for (int i = 0; i < pairs.length; i += 2) {
            add(pattern, OP | F3 | F7, pairs[i], op | f3 << 12 | (Integer) pairs[i + 1] << 25);
        }
    }

    private static void byF12(int op, int f3, Object... pairs) {
        for (int i = 0; i < pairs.length; i += 2) {
            add("d,s", OP | F3 | F12, pairs[i], op | f3 << 12 | (Integer) pairs[i + 1] << 20);
        }
    }

    private static void threes(int op, int f7, String... names) {
        for (int i = 0; i < names.length; i++) {
            if (names[i] != null) {
                byF7("d,s,t", op, i, names[i], f7);
            }
        }
    }

    private static void atomics(String end, int f3) {
        add("d,(s)", OP | F3 | F5 | RS2, "lr" + end, 2 << 27 | f3 << 12 | 0x2f);
        String[] names = {"sc", "amoswap", "amoadd", "amoxor", "amoand", "amoor", "amomin", "amomax", "amominu", "amomaxu"};
        int[] codes = {3, 1, 0, 4, 12, 8, 16, 20, 24, 28};
        for (int i = 0; i < names.length; i++) {
            add("d,t,(s)", OP | F3 | F5, names[i] + end, codes[i] << 27 | f3 << 12 | 0x2f);
        }
    }

    private static void guestLoads(Object... triples) {
        for (int i = 0; i < triples.length; i += 3) {
            int word = (Integer) triples[i + 1] << 25 | (Integer) triples[i + 2] << 20 | 4 << 12 | 0x73;
            add("d,(s)", OP | F3 | F12, triples[i], word);
        }
    }

    /** The row of a word of 32 bits; null when it is no instruction. */
    static Row of(int word) {
        for (Row row : ROWS) {
            if (((word ^ row.match) & row.mask) == 0) {
                return row;
            }
        }
        return null;
    }

    /** What is listed of a word of 32 bits. */
    static String listed(int word) {
        Row row = of(word);
        return row == null ? ".word " + (word & 0xffffffffL) : row.name + (row.pattern.isEmpty() ? "" : " ") + operands(row, word, 0, true);
    }

    /** The operands of a word; branches and jumps as distances, or as places from a place on. */
    static String operands(Row row, int word, long place, boolean distances) {
        StringBuilder text = new StringBuilder();
        for (char p : row.pattern.toCharArray()) {
            switch (p) {
                case ',' -> text.append(", ");
                case 'd' -> text.append('x').append(word >>> 7 & 31);
                case 's' -> text.append('x').append(word >>> 15 & 31);
                case 't' -> text.append('x').append(word >>> 20 & 31);
                case 'b', 'j' -> text.append(distances ? String.format("%+d", number(p, word)) : Long.toString(place + number(p, word)));
                case 'i', 'k', 'h', 'w', 'u', 'c', 'z' -> text.append(number(p, word));
                default -> text.append(p);
            }
        }
        return text.toString();
    }

    /** A number of a word, by the bits that the document tells from the lowest on. */
    static long number(char p, int word) {
        return switch (p) {
            case 'i' -> word >> 20;
            case 'k' -> bits(word, true, 7, 8, 9, 10, 11, 25, 26, 27, 28, 29, 30, 31);
            case 'b' -> 2 * bits(word, true, 8, 9, 10, 11, 25, 26, 27, 28, 29, 30, 7, 31);
            case 'j' -> 2 * bits(word, true, 21, 22, 23, 24, 25, 26, 27, 28, 29, 30, 20, 12, 13, 14, 15, 16, 17, 18, 19, 31);
            case 'u' -> word >>> 12;
            case 'h' -> word >>> 20 & 63;
            case 'w' -> word >>> 20 & 31;
            case 'c' -> word >>> 20;
            default -> word >>> 15 & 31;
        };
    }

    /** Bits of a word, told from the lowest on. */
    static long bits(int word, boolean signed, int... places) {
        long sum = 0;
        for (int i = 0; i < places.length; i++) {
            sum |= (long) (word >>> places[i] & 1) << i;
        }
        int shift = 64 - places.length;
        return signed ? sum << shift >> shift : sum;
    }
}
