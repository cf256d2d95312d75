import java.util.ArrayList;
import java.util.List;

/** Term 7, promises 2 and 5: the tape's ends, words, numbers' ranges, labels, bytes at RAM's end, and each place of a fault. */
public final class TapeEdgesTest {
    private static final Check CHECK = new Check();
    private static final long RAM = Check.RAM;

    public static void main(String[] args) {
        signs();
        fullTape();
        fullTapeEnds();
        eachWord();
        blanks();
        ranges();
        wideRanges();
        distances();
        numbers();
        registers();
        names();
        manyLabels();
        labelPlaces();
        rows();
        spaces();
        texts();
        atRamsEnd();
        firstOfSeveral();
        twice();
        sizesOfLines();
        refused();
        CHECK.end();
    }

    private static int made(int pages, long at, String text) {
        RiscMonitor x = new RiscMonitor();
        x.computer(1, pages);
        Check.type(x, text);
        return x.assemble(0, at);
    }

    private static void good(String text, int bytes) {
        CHECK.due("assemble of '" + text + "'", made(2, RAM, text), bytes);
    }

    private static void fault(String text, int place) {
        CHECK.due("assemble of '" + text + "'", made(2, RAM, text), -1 - place);
    }

    private static void signs() {
        CHECK.about("promise 2");
        for (int c = 0; c < 256; c++) {
            RiscMonitor x = new RiscMonitor();
            x.sign((long) c << 24);
            CHECK.due("sign " + c, x.count(2), c == 10 || c >= 32 && c <= 126 ? 1 : 0);
            x.sign((long) c << 56 | 'a');
            CHECK.due("sign " + c + ", the highest byte", x.count(2), c == 10 || c >= 32 && c <= 126 ? 3 : 1);
        }
        RiscMonitor x = new RiscMonitor();
        x.computer(1, 1);
        Check.type(x, ".ascii\"~");
        x.sign(0x4100427f43ff441fL);
        x.sign('"');
        CHECK.due("five signs", x.assemble(0, RAM), 5);
        CHECK.due("from the highest on", Check.dword(x, 0, RAM), 0x444342417eL);
    }

    private static void fullTape() {
        CHECK.about("term 7: at most 4,000 signs");
        RiscMonitor x = new RiscMonitor();
        x.computer(1, 1);
        for (int i = 0; i < 499; i++) {
            x.sign(0x2020202020202020L);
        }
        x.sign(0x2020202020206563L);
        CHECK.due("4,000", x.count(2), 4000);
        x.sign(0x616c6c0000000000L);
        CHECK.due("what is beyond is left out", x.count(2), 4000);
        CHECK.due("the fault is at 3,998", x.assemble(0, RAM), -1 - 3998);
        CHECK.due("the tape is empty", x.count(2), 0);
        x = new RiscMonitor();
        x.computer(1, 1);
        x.sign(0x20202020L);
        for (int i = 0; i < 499; i++) {
            x.sign(0x2020202020202020L);
        }
        x.sign(0x6e6f70202020206eL);
        CHECK.due("the last four signs come", x.count(2), 4000);
        CHECK.due("the tape ends behind nop", x.assemble(0, RAM), 4);
    }

    /** What the last sign of a full tape belongs to; behind it there is nothing. */
    private static void fullTapeEnds() {
        CHECK.about("term 7: the tape's end");
        String[] good = {"nop", "mv a0,s1", "mv a0,zero", "mv a0,x3", "li a0,0", "li a0,7", "a:", "#", ".byte 1", ".ascii \"\"",
                "lw a0,0(s0)", ".zero 0"};
        for (String line : good) {
            CHECK.due("'" + line + "' at the end", atEnd(line) >= 0 ? 1 : 0, 1);
        }
        String[] missing = {".ascii \"", ".ascii \"ab", ".ascii", "li a0,", "li", "mv a0,", "mv a0", "lw a0,0(s0", "lw a0,0(", "lw a0,0",
                ".byte 1,", ".zero", "add x1,x2"};
        for (String line : missing) {
            CHECK.due("'" + line + "' at the end", atEnd(line), -1 - 4000);
        }
        String[] wrong = {"0x", "-", "x", "s", "t", "?", ":", "\"", ",", "abc"};
        for (String word : wrong) {
            CHECK.due("'mv a0," + word + "' at the end", atEnd("mv a0," + word), -1 - 4000 + word.length());
            CHECK.due("'li a0," + word + "' at the end", atEnd("li a0," + word), -1 - 4000 + word.length());
        }
        RiscMonitor x = new RiscMonitor();
        x.computer(1, 1);
        CHECK.due("an older tape", Check.make(x, 0, RAM, ".ascii \"abcdef\""), 6);
        CHECK.due("is gone", Check.make(x, 0, RAM, ".ascii \"abcdef"), -1 - 14);
        CHECK.due("an older tape", Check.make(x, 0, RAM, "mv a0,s11"), 4);
        CHECK.due("is gone", Check.make(x, 0, RAM, "mv a0,s"), -1 - 6);
        CHECK.due("an older tape", Check.make(x, 0, RAM, "li a0,0x1"), 4);
        CHECK.due("is gone", Check.make(x, 0, RAM, "li a0,0"), 4);
        CHECK.due("an older tape", Check.make(x, 0, RAM, "nop:"), 0);
        CHECK.due("is gone", Check.make(x, 0, RAM, "nop"), 4);
        CHECK.due("an older tape", Check.make(x, 0, RAM, ".byte 1,2"), 2);
        CHECK.due("is gone", Check.make(x, 0, RAM, ".byte 1"), 1);
    }

    /** A line whose last sign is the tape's 4,000th. */
    private static int atEnd(String line) {
        RiscMonitor x = new RiscMonitor();
        x.computer(1, 1);
        Check.type(x, " ".repeat(4000 - line.length()) + line);
        return x.assemble(0, RAM);
    }

    /** Good lines as words; blanks are put between them. */
    private static List<String[]> lines() {
        List<String[]> all = new ArrayList<>();
        for (Table.Row row : Table.ROWS) {
            String line = row.name() + " " + Table.operands(row, row.match(), RAM, false);
            all.add(line.replace(",", " , ").replace("(", " ( ").replace(")", " ) ").trim().split(" +"));
        }
        String[] more = {"nop", "mv x1 , x2", "not a0 , t6", "neg s0 , s11", "li a0 , 5", "li a0 , 5000", "la a0 , 0x80000000",
                "j 0x80000000", "call 0x80000000", "jr ra", "ret",
            "beqz a0 , 0x80000000", "bnez a0 , 0x80000000", "csrr a0 , 0x300", "csrw 0x300 , a0", ".byte 1", ".half 1 , 2",
                    ".word 1 , 2 , 3", ".dword -1", ".zero 4", ".align 3"};
        for (String line : more) {
            all.add(line.split(" "));
        }
        return all;
    }

    /** Each word of a line is one that can't be there, or is missing; or one stands behind the last. */
    private static void eachWord() {
        CHECK.about("term 7: the word that is none of these");
        String[] odd = {"?", "12x", ":", "\"", "(", ")", ",", "abcdefghi", "a.b", "X1", "'"};
        for (String[] words : lines()) {
            StringBuilder text = new StringBuilder();
            for (int i = 0; i < words.length; i++) {
                String more = rest(words, i + 1);
                for (String word : odd) {
                    if (!word.equals(words[i]) && !(word.equals(":") && i == 1)) {
                        fault(text + word + more, text.length());
                    }
                }
                text.append(words[i]);
                boolean isWhole = i == words.length - 1 || words[0].startsWith(".") && i > 0 && !words[i].equals(",");
                if (!isWhole) {
                    fault(text.toString(), text.length());
                    fault(text + "  ", text.length() + 2);
                    fault(text + " # x1", text.length() + 1);
                    fault(text + "#", text.length());
                    fault(text + " \nnop", text.length() + 1);
                }
                text.append(' ');
            }
            String line = text.toString();
            boolean row = words[0].startsWith(".") && words[0].length() > 4 && !words[0].equals(".zero") && !words[0].equals(".align");
            CHECK.due("'" + line + "' is good", made(2, RAM, line) >= 0 ? 1 : 0, 1);
            for (String word : new String[] {"x1", "5", "nop", ",", "(", ":"}) {
                if (!(word.equals(",") && row) && !(word.equals(":") && words.length == 1)) {
                    fault(line + word, line.length());
                }
            }
        }
    }

    private static String rest(String[] words, int from) {
        StringBuilder text = new StringBuilder();
        for (int i = from; i < words.length; i++) {
            text.append(' ').append(words[i]);
        }
        return text.toString();
    }

    private static void blanks() {
        CHECK.about("term 7: blanks between all, and none in words");
        good("  add  x1 , x2,x3  ", 4);
        good("a :b: add x1,x2,x3#c", 4);
        good("a:b:c:", 0);
        good("lw x1 , 4 ( x2 )", 4);
        good("lw x1,4(x2)", 4);
        good("\n\n  \n#\n # a b c \"\nnop", 4);
        good("", 0);
        good("#", 0);
        fault("add x 1,x2,x3", 4);
        fault("ad d x1,x2,x3", 0);
        fault("addx1,x2,x3", 0);
        fault("addi x1,x2,- 1", 11);
        fault("addi x1,x2,0 x1", 13);
        fault("add x1,,x3", 7);
        fault("nop nop", 4);
        fault("nop\n nop\n  nope", 11);
        fault("a b: nop", 0);
        fault("nop a:", 4);
        fault("1:", 0);
        fault("::", 0);
        fault("a::", 2);
        fault("mv a0,a0!", 6);
        fault("mv a0,!a0", 6);
        fault("mv a0,a0~", 6);
        fault("mv a0,a0 !", 9);
        fault("nop!", 0);
    }

    private static void range(String ahead, String behind, long least, long most) {
        for (long n : new long[] {least, most}) {
            CHECK.due("assemble of '" + ahead + n + behind + "'", made(2, RAM, ahead + n + behind) >= 0 ? 1 : 0, 1);
            CHECK.due("in hexadecimal", made(2, RAM, ahead + "0x" + Long.toHexString(n) + behind) >= 0 ? 1 : 0, 1);
        }
        for (long n : new long[] {least - 1, most + 1, Long.MAX_VALUE, -Long.MAX_VALUE, least - (1L << 32), most + (1L << 32),
                least - (1L << 12), most + (1L << 12)}) {
            if (n < least || n > most) {
                fault(ahead + n + behind, ahead.length());
                fault(ahead + "0x" + Long.toHexString(n) + behind, ahead.length());
            }
        }
        fault(ahead + "0x8000000000000000" + behind, ahead.length());
    }

    private static void ranges() {
        CHECK.about("term 7: out of its range");
        for (Table.Row row : Table.ROWS) {
            String line = row.name() + " " + Table.operands(row, row.match(), RAM, false);
            for (char p : "ihwkuz".toCharArray()) {
                int at = row.pattern().indexOf(p);
                if (at >= 0) {
                    String number = Long.toString(Table.number(p, row.match()));
                    int from = line.lastIndexOf(' ') + 1;
                    long least = p == 'i' || p == 'k' ? -2048 : 0;
                    long most = p == 'i' || p == 'k' ? 2047 : p == 'h' ? 63 : p == 'u' ? 0xfffff : 31;
                    range(line.substring(0, from), line.substring(from + number.length()), least, most);
                }
            }
        }
        range("csrrw x1,", ",x2", 0, 4095);
        range("csrrs x1,", ",x2", 0, 4095);
        range("csrrc x1,", ",x2", 0, 4095);
        range("csrrwi x1,", ",1", 0, 4095);
        range("csrr x1,", "", 0, 4095);
        range("csrw ", ",x1", 0, 4095);
        range("li x1,", "", -0x80000000L, 0x7fffffffL);
        range(".zero ", "", 0, 4096);
        range(".align ", "", 0, 12);
    }

    private static void wideRanges() {
        CHECK.about("term 7: la, from auipc's place");
        range("la x1,", "", RAM - 0x80000800L, RAM + 0x7ffff7ffL);
        range("nop\nla x1,", "", RAM + 4 - 0x80000800L, RAM + 4 + 0x7ffff7ffL);
        long[] places = {RAM - 0x80000800L, RAM - 0x80000000L, RAM - 2049, RAM - 2048, RAM - 1, RAM, RAM + 2047, RAM + 2048, RAM + 0x7ffff7ffL};
        for (long place : places) {
            RiscMonitor x = Check.ran(2, "la a0,0x" + Long.toHexString(place));
            CHECK.due("la of " + Long.toHexString(place), x.register(0, 0, 10), place);
        }
        long[] small = {-0x80000000L, -0x7fffffffL, -2049, -2048, -1, 0, 2047, 2048, 4095, 4096, 0x7ffff7ffL, 0x7ffff800L, 0x7fffffffL};
        for (long n : small) {
            boolean one = n >= -2048 && n <= 2047;
            good("li a0," + n, one ? 4 : 8);
            RiscMonitor x = Check.ran(one ? 1 : 2, "li a0," + n);
            CHECK.due("li of " + n, x.register(0, 0, 10), n);
        }
        RiscMonitor x = new RiscMonitor();
        x.computer(1, 1);
        Check.make(x, 0, RAM, "li x1,4096", "li x2,0x7fffffff", "la x3,0x80001010");
        String[] want = {"lui x1, 1", "addiw x1, x1, 0", "lui x2, 524288", "addiw x2, x2, -1", "auipc x3, 1", "addi x3, x3, 0"};
        for (int i = 0; i < want.length; i++) {
            CHECK.due("what it is made of", Check.listed(x, 0, RAM + 4 * i), want[i]);
        }
    }

    private static void distances() {
        CHECK.about("term 7: the distance even, and in range");
        String[] branches = {"beq x1,x2,", "bne x1,x2,", "blt x1,x2,", "bge x1,x2,", "bltu x1,x2,", "bgeu x1,x2,", "beqz x1,", "bnez x1,"};
        for (String line : branches) {
            even(line, 4096);
        }
        even("jal x1,", 1 << 20);
        even("j ", 1 << 20);
        even("call ", 1 << 20);
        fault("j 0", 2);
        fault("j -1", 2);
        fault("j 0x8000000080000000", 2);
        good("nop\nbeqz x1,0x80001002", 8);
        fault("nop\nbeqz x1,0x80001004", 12);
        good("nop\nbeqz x1,0x7ffff004", 8);
        fault("nop\nbeqz x1,0x7ffff002", 12);
    }

    private static void even(String line, long far) {
        good(line + (RAM + far - 2), 4);
        fault(line + (RAM + far), line.length());
        fault(line + (RAM + far - 1), line.length());
        good(line + (RAM - far), 4);
        fault(line + (RAM - far - 2), line.length());
        fault(line + (RAM - far + 1), line.length());
        good(line + RAM, 4);
        fault(line + (RAM + 1), line.length());
        good(line + (RAM + 2), 4);
        fault(line + (RAM + (1L << 32)), line.length());
    }

    private static void numbers() {
        CHECK.about("term 7: NUMBERS");
        String[] right = {"0", "-0", "00", "9223372036854775807", "-9223372036854775807", "0x0", "0xffffffffffffffff",
                "0x0123456789abcdef", "0x00000000000000ff", "-000000000000000000000000009",
            "0000009223372036854775807"};
        long[] values = {0, 0, 0, Long.MAX_VALUE, -Long.MAX_VALUE, 0, -1, 0x0123456789abcdefL, 255, -9, Long.MAX_VALUE};
        for (int i = 0; i < right.length; i++) {
            RiscMonitor x = new RiscMonitor();
            x.computer(1, 1);
            CHECK.due(".dword " + right[i], Check.make(x, 0, RAM, ".dword " + right[i]), 8);
            CHECK.due(right[i], Check.dword(x, 0, RAM), values[i]);
        }
        String[] wrong = {"9223372036854775808", "-9223372036854775808", "10000000000000000000", "99999999999999999999999", "0x",
                "0x00000000000000000", "0x10000000000000000", "0xg", "0xF", "0X1", "-0x1", "-", "--1", "+1",
            "1-", "0b1", "1.", "1_0", "12a", "0x1x", "9223372036854775810", "-9223372036854775809"};
        for (String number : wrong) {
            fault(".dword " + number, 7);
        }
    }

    private static void registers() {
        CHECK.about("term 7: REGISTERS");
        String[] names = {"zero", "ra", "sp", "gp", "tp", "t0", "t1", "t2", "s0", "s1", "a0", "a1", "a2", "a3", "a4", "a5", "a6", "a7",
                "s2", "s3", "s4", "s5", "s6", "s7", "s8", "s9", "s10", "s11", "t3", "t4", "t5", "t6"};
        for (int r = 0; r < 32; r++) {
            RiscMonitor x = new RiscMonitor();
            x.computer(1, 1);
            Check.make(x, 0, RAM, "add " + names[r] + ",x" + r + "," + names[r]);
            CHECK.due(names[r], Check.listed(x, 0, RAM), "add x" + r + ", x" + r + ", x" + r);
        }
        String[] wrong = {"x32", "x99", "x100", "x00", "x01", "x", "x1x", "x-1", "fp", "t7", "s12", "a8", "a10", "zer", "zeroo", "r1",
                "A0", "X1", "s01", "t", "s", "a", "ze", "1", "x4294967296", "pc", "s1 1"};
        for (String name : wrong) {
            fault("mv a0," + name, name.equals("s1 1") ? 9 : 6);
            if (name.indexOf(' ') < 0) {
                fault("mv " + name + ",a0", 3);
            }
        }
    }

    private static void names() {
        CHECK.about("term 7: a NAME");
        String[] right = {"a", "_", "Z9", "_1234567", "abcdefgh", "ABCDEFGH", "a_b_c_d_", "x1", "nop", "li", "z0123456"};
        for (String name : right) {
            good(name + ": j " + name, 4);
        }
        String[] wrong = {"9a", "abcdefghi", "a.b", "a-b", "a$", "_12345678", "0", "-a", "a!", "[a", "`a", "{a", "@a", "/a", "a/"};
        for (String name : wrong) {
            fault(name + ": nop", 0);
            fault("j " + name, 2);
        }
        fault("a: nop\nb: nop\na: nop", 14);
        fault("a: b: a: nop", 6);
        good("a: A: nop", 4);
        fault("abcdefgh: nop\nj abcdefg", 16);
        fault("abcdefg: nop\nj abcdefgh", 15);
    }

    private static String labels(int count) {
        StringBuilder text = new StringBuilder();
        for (int i = 0; i < count; i++) {
            text.append('l').append(i).append(i % 5 == 4 ? ":\n" : ": ");
        }
        return text.toString();
    }

    private static void manyLabels() {
        CHECK.about("term 7: at most 100");
        good(labels(99) + "x: j x", 4);
        good(labels(100) + "j l99", 4);
        String text = labels(100);
        fault(text + "x:", text.length());
        fault(text + "  x: bad", text.length() + 2);
        fault(text + "l99:", text.length());
        fault(text + "nop\n bad", text.length() + 5);
        fault(text + "x: j x", text.length());
        fault("j x\n" + text + "x: nop", 2);
        fault(text + "nop x: y:", text.length() + 4);
    }

    private static void labelPlaces() {
        CHECK.about("term 7: a label in a number's place is its place");
        RiscMonitor x = new RiscMonitor();
        x.computer(1, 1);
        CHECK.due("assemble", Check.make(x, 0, RAM + 2, "a: .dword a,b,c", "b: .byte 1", "c: .align 3", "d: .dword d", "e:"), 38);
        long[] want = {RAM + 2, RAM + 26, RAM + 27};
        for (int i = 0; i < 3; i++) {
            CHECK.due("label " + i, Check.dword(x, 0, RAM + 2 + 8 * i), want[i]);
        }
        CHECK.due("behind zeros", Check.dword(x, 0, RAM + 32), RAM + 32);
        fault("lui a0,a\na:", 7);
        fault("csrr a0,a\na:", 8);
        fault("csrrwi a0,1,a\na:", 12);
        fault("slli a0,a0,a\na:", 11);
        fault("lw a0,a(a0)\na:", 6);
        fault("sw a0,a(a0)\na:", 6);
        fault("a: li a0,a", 9);
        fault("a: .align a", 10);
        fault("a: .zero a", 9);
        good("a: la a0,a\n.word a\n.byte a\n.half a", 8 + 4 + 1 + 2);
        fault("mv a0,a\na:", 6);
    }

    private static void rows() {
        CHECK.about("term 7: 1 to 16 of them");
        String[] names = {".byte", ".half", ".word", ".dword"};
        for (int k = 0; k < 4; k++) {
            StringBuilder line = new StringBuilder(names[k]);
            for (int n = 1; n <= 18; n++) {
                line.append(n == 1 ? " " : ",").append(n % 10);
                int comma = names[k].length() + 1 + 2 * 16 - 1;
                CHECK.due(line.toString(), made(1, RAM, line.toString()), n <= 16 ? n << k : -1 - comma);
                CHECK.due(line + ",", made(1, RAM, line + ","), n < 16 ? -1 - line.length() - 1 : -1 - comma);
            }
            RiscMonitor x = new RiscMonitor();
            x.computer(1, 1);
            Check.make(x, 0, RAM, names[k] + " -2");
            CHECK.due("their lowest bytes", Check.dword(x, 0, RAM), k == 3 ? -2 : (1L << (8 << k)) - 2);
            Check.make(x, 0, RAM, names[k] + " 0x123456789abcdef0");
            CHECK.due("the lowest first", Check.dword(x, 0, RAM), k == 3 ? 0x123456789abcdef0L : 0x123456789abcdef0L & (1L << (8 << k)) - 1);
            fault(names[k] + " ,1", names[k].length() + 1);
            fault(names[k] + " 1 1", names[k].length() + 3);
        }
    }

    private static void spaces() {
        CHECK.about("term 7: .zero, .align");
        for (int n = 0; n <= 12; n++) {
            for (int at : new int[] {0, 1, 3, 4095}) {
                int want = (int) (-at & (1L << n) - 1);
                RiscMonitor x = new RiscMonitor();
                x.computer(1, 2);
                CHECK.due(".align " + n + " at +" + at, Check.make(x, 0, RAM + at, ".align " + n), want);
                CHECK.due("with a byte ahead", Check.make(x, 0, RAM + at, ".byte 7", ".align " + n, "a: .byte a"),
                        2 + (int) (-(at + 1) & (1L << n) - 1));
            }
        }
        RiscMonitor x = new RiscMonitor();
        x.computer(1, 2);
        for (int i = 0; i < 16; i++) {
            x.poke(0, RAM + i, 0xee);
        }
        Check.make(x, 0, RAM + 1, ".zero 2");
        Check.make(x, 0, RAM + 9, ".align 2");
        CHECK.due(".zero", Check.dword(x, 0, RAM), 0xeeeeeeeeee0000eeL);
        CHECK.due(".align", Check.dword(x, 0, RAM + 8), 0xeeeeeeee000000eeL);
        good(".zero 4096\n.zero 4096", 8192);
        fault(".zero 4096\n.zero 4096\n.zero 1", 22);
        fault(".zero", 5);
        fault(".align", 6);
    }

    private static void texts() {
        CHECK.about("term 7: .ascii");
        good(".ascii \"\"", 0);
        good(".ascii\"a\"", 1);
        good("a:.ascii \" #:,()' \" # \"", 8);
        fault(".ascii", 6);
        fault(".ascii # \"\"", 7);
        fault(".ascii a", 7);
        fault(".ascii \"", 8);
        fault(".ascii \"abc\n.ascii \"\"", 11);
        fault(".ascii \"a\" \"b\"", 11);
        fault(".ascii \"a\"b", 10);
        fault(".ascii \"a\",\"b\"", 10);
        RiscMonitor x = new RiscMonitor();
        x.computer(1, 1);
        Check.make(x, 0, RAM, ".ascii \" ~#,(): \"");
        CHECK.due("its signs", Check.dword(x, 0, RAM), 0x203a29282c237e20L);
    }

    /** So many bytes of RAM are left for a line: it fits, or goes beyond. */
    private static void last(String line, int bytes) {
        CHECK.due("'" + line + "' at RAM's end", made(1, RAM + 4096 - bytes, line), bytes);
        if (bytes > 1) {
            CHECK.due("'" + line + "' beyond it", made(1, RAM + 4096 - bytes + 1, line), -1);
            CHECK.due("'" + line + "' beyond it", made(1, RAM + 4095, line), -1);
        }
        String full = ".zero " + (4096 - bytes + 1) + "\n";
        CHECK.due("behind zeros", made(1, RAM, full + "a: b:  " + line + " # c"), -1 - full.length() - 7);
        CHECK.due("behind zeros, a fault of a word", made(1, RAM, full + line + " ?"), -1 - full.length() - line.length() - 1);
    }

    private static void atRamsEnd() {
        CHECK.about("term 7: bytes that would go beyond RAM");
        last("nop", 4);
        last("add x1,x2,x3", 4);
        last("li x1,5", 4);
        last("li x1,5000", 8);
        last("la x1,0x80000000", 8);
        last("ret", 4);
        last(".byte 1", 1);
        last(".half 1", 2);
        last(".word 1,2", 8);
        last(".dword 1,2,3,4,5,6,7,8,9,10,11,12,13,14,15,16", 128);
        last(".zero 5", 5);
        last(".ascii \"abc\"", 3);
        CHECK.due(".align at RAM's end", made(1, RAM + 1, ".align 12"), 4095);
        CHECK.due("nothing at RAM's end", made(1, RAM, ".zero 4096\n.align 12\n.zero 0\n.ascii \"\"\na:"), 4096);
        CHECK.due("a label that isn't there is told first", made(1, RAM, ".zero 4094\nj b"), -1 - 13);
        CHECK.due("a number out of its range, too", made(1, RAM, ".zero 4094\nli x1,2147483648"), -1 - 17);
        CHECK.due("at the last byte", made(1, RAM + 4095, ".byte 1"), 1);
        for (int pages = 1; pages <= 16; pages++) {
            CHECK.due("the last byte of " + pages, made(pages, RAM + pages * 4096L - 1, ".byte 1"), 1);
            CHECK.due("beyond", made(pages, RAM + pages * 4096L - 1, ".byte 1,2"), -1);
        }
    }

    private static void firstOfSeveral() {
        CHECK.about("term 7: the first FAULT by place, of all the tape");
        fault("j x\nbad", 2);
        fault("bad\nj x", 0);
        fault("j x ?", 2);
        fault(".word x,y", 6);
        fault(".word x,?", 6);
        fault(".word ?,x", 6);
        fault("addi x1,x1,5000 ?", 11);
        fault("addi x99,x1,5000", 5);
        fault("beq x1,x1,x\nx: x: nop", 15);
        fault("x: j y\nx: nop", 5);
        fault("x: x: j y", 3);
        fault("x: bad\nx: nop", 3);
        fault("j x\nx: bad", 7);
        fault("nop\nj x\nx bad:", 6);
        fault("j y\n? x: nop\nj x", 2);
        fault("? x: nop\nj x", 0);
        fault("nop\n? x: nop\nj x", 4);
        fault("add: add: add x1,x2,x3", 5);
        fault("add: add: add x1", 5);
        fault(labels(100) + "add: add x1,x2", labels(100).length());
    }

    private static void twice() {
        CHECK.about("promise 5: each tape has its own labels");
        RiscMonitor x = new RiscMonitor();
        x.computer(1, 1);
        for (int i = 0; i < 3; i++) {
            CHECK.due("the same label", Check.make(x, 0, RAM + 4 * i, "a: j a"), 4);
            CHECK.due("its place", Check.listed(x, 0, RAM + 4 * i), "jal x0, +0");
        }
        CHECK.due("a label of an older tape", Check.make(x, 0, RAM, "b: j a"), -1 - 5);
        CHECK.due("behind a fault", Check.make(x, 0, RAM, "b: j b"), 4);
    }

    /** beqz reaches 4,094 bytes: whether it has a fault tells how many bytes the line behind 4,090 others has. */
    private static void size(String line, int bytes, int place) {
        String ahead = "beqz x1,a\n.zero 4084\n";
        for (int more = 0; more <= 8; more++) {
            boolean near = 4088 + bytes + more <= 4094 && (bytes + more) % 2 == 0;
            String text = ahead + line + "\n.zero " + more + "\na:";
            CHECK.due("'" + line + "' and " + more, made(16, RAM, text), near ? -1 - ahead.length() - place : -1 - 8);
        }
    }

    private static void sizesOfLines() {
        CHECK.about("term 7: bytes of lines with faults, as far as labels' places go");
        size("bad", 0, 0);
        size("add x1,x2", 0, 9);
        size("add x1,x2,x3 ?", 0, 13);
        size("addi x1,x1,5000", 0, 11);
        size("nop nop", 0, 4);
        size(".byte 1,2,?", 0, 10);
        size(".byte y,?", 0, 6);
        size("j y ?", 0, 2);
        size(".ascii \"ab", 0, 10);
        size("beqz x1,a:", 0, 9);
        size("j y", 4, 2);
        size("addi x1,x1,y", 4, 11);
        size("csrw y,x1", 4, 5);
        size("li x1,y", 8, 6);
        size("la x1,y", 8, 6);
        size(".byte y", 1, 6);
        size(".byte 1,y,3", 3, 8);
        size(".half y", 2, 6);
        size(".word y", 4, 6);
        size(".dword y", 8, 7);
        size(".zero y", 0, 6);
        size(".align y", 0, 7);
        size("li x1,b\nb:", 8, 6);
        size("addi x1,x1,b\nb:", 4, 11);
        size(".zero b\nb:", 0, 6);
        size("slli x1,x1,64", 0, 11);
        size("j 1", 0, 2);
    }

    private static void refused() {
        CHECK.about("promise 5: nothing is changed");
        RiscMonitor x = Check.house(1, 1, "nop", "nop", "nop");
        x.run(0, 1);
        x.record(0, true);
        x.picture(0);
        long[] outside = {RAM - 1, RAM + 4096, 0, -1, Long.MIN_VALUE, RAM + (1L << 32)};
        Check.type(x, "li a0,7");
        for (long at : outside) {
            CHECK.due("at " + at, x.assemble(0, at), -4);
        }
        CHECK.due("-2 ahead of -4", x.assemble(1, 0), -2);
        CHECK.due("-2", x.assemble(-1, RAM), -2);
        CHECK.due("the tape is as it was", x.count(2), 7);
        Check.type(x, "\nbad");
        CHECK.due("a fault", x.assemble(0, RAM), -1 - 8);
        CHECK.due("the tape is empty", x.count(2), 0);
        CHECK.due("RAM", x.changed(0, 0), 0);
        CHECK.due("the book", x.block(0, 0), 1);
        CHECK.due("the record", x.count(4), 1);
        CHECK.due("in its block", x.hart(0, 0, 4), RAM + 4);
        CHECK.due("an empty tape", x.assemble(0, RAM + 4095), 0);
    }
}
