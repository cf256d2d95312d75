import java.math.BigInteger;
import java.util.function.LongBinaryOperator;

/** Term 2: what the computing instructions answer, at the ends of the numbers' ranges. */
public final class ComputeTest {
    private static final Check CHECK = new Check();
    private static final long LEAST = Long.MIN_VALUE;
    private static final long[] NUMBERS = {0, 1, -1, LEAST, Long.MAX_VALUE, 0x80000000L, 0x7fffffffL, 0xffffffffL, 32, 63, -64, 0x8001020304ff80feL};
    private static final int N = NUMBERS.length;
    private static final int[] SHIFTS = {0, 1, 31, 32, 63};

    public static void main(String[] args) {
        CHECK.about("term 2");
        plain();
        shifts();
        products();
        quotients();
        bits();
        narrow();
        immediates();
        shiftsByNumbers();
        ofOne();
        branches();
        atomics();
        CHECK.end();
    }

    /** A computing instruction of a0 and a1 into a2, of each two of the numbers: 2 calls a pair. */
    private static void each(String name, LongBinaryOperator want) {
        RiscMonitor x = Check.house(1, 1, "la s0,v", "la s3,w", "b: ld a0,0(s0)", "la s1,v", "a: ld a1,0(s1)", name + " a2,a0,a1",
                "addi s1,s1,8", "bne s1,s3,a",
                "addi s0,s0,8", "j b", ".align 3", "v: .dword " + row(), "w:");
        x.run(0, 4);
        for (long a : NUMBERS) {
            x.run(0, 3);
            for (long b : NUMBERS) {
                x.run(0, 4);
                CHECK.due(name + " of " + a + ", " + b, x.register(0, 0, 12), want.applyAsLong(a, b));
            }
            x.run(0, 2);
        }
    }

    private static String row() {
        StringBuilder text = new StringBuilder();
        for (long n : NUMBERS) {
            text.append(text.length() > 0 ? "," : "").append("0x").append(Long.toHexString(n));
        }
        return text.toString();
    }

    /** An instruction of a0 into a2 (its operands behind a0 are told), of each of the numbers. */
    private static void eachOne(String name, String more, LongBinaryOperator want) {
        RiscMonitor x = Check.house(1, 1, "la s0,v", "a: ld a0,0(s0)", name + " a2,a0" + more, "addi s0,s0,8", "j a", ".align 3",
                "v: .dword " + row());
        x.run(0, 2);
        for (long a : NUMBERS) {
            x.run(0, 4);
            CHECK.due(name + more + " of " + a, x.register(0, 0, 12), want.applyAsLong(a, 0));
        }
    }

    private static BigInteger big(long n, boolean signed) {
        BigInteger value = BigInteger.valueOf(n);
        return signed || n >= 0 ? value : value.add(BigInteger.ONE.shiftLeft(64));
    }

    private static void plain() {
        each("add", (a, b) -> a + b);
        each("sub", (a, b) -> a - b);
        each("xor", (a, b) -> a ^ b);
        each("or", (a, b) -> a | b);
        each("and", (a, b) -> a & b);
        each("xnor", (a, b) -> ~(a ^ b));
        each("orn", (a, b) -> a | ~b);
        each("andn", (a, b) -> a & ~b);
        each("slt", (a, b) -> a < b ? 1 : 0);
        each("sltu", (a, b) -> big(a, false).compareTo(big(b, false)) < 0 ? 1 : 0);
        each("min", (a, b) -> Math.min(a, b));
        each("max", (a, b) -> Math.max(a, b));
        each("minu", (a, b) -> big(a, false).min(big(b, false)).longValue());
        each("maxu", (a, b) -> big(a, false).max(big(b, false)).longValue());
        each("sh1add", (a, b) -> b + 2 * a);
        each("sh2add", (a, b) -> b + 4 * a);
        each("sh3add", (a, b) -> b + 8 * a);
        each("add.uw", (a, b) -> b + (a & 0xffffffffL));
        each("sh1add.uw", (a, b) -> b + 2 * (a & 0xffffffffL));
        each("sh2add.uw", (a, b) -> b + 4 * (a & 0xffffffffL));
        each("sh3add.uw", (a, b) -> b + 8 * (a & 0xffffffffL));
        each("czero.eqz", (a, b) -> b == 0 ? 0 : a);
        each("czero.nez", (a, b) -> b == 0 ? a : 0);
    }

    private static void shifts() {
        each("sll", (a, b) -> big(a, false).shiftLeft((int) (b & 63)).longValue());
        each("srl", (a, b) -> big(a, false).shiftRight((int) (b & 63)).longValue());
        each("sra", (a, b) -> big(a, true).shiftRight((int) (b & 63)).longValue());
        each("rol", (a, b) -> Long.rotateLeft(a, (int) (b & 63)));
        each("ror", (a, b) -> Long.rotateRight(a, (int) (b & 63)));
    }

    private static void products() {
        each("mul", (a, b) -> big(a, true).multiply(big(b, true)).longValue());
        each("mulh", (a, b) -> big(a, true).multiply(big(b, true)).shiftRight(64).longValue());
        each("mulhsu", (a, b) -> big(a, true).multiply(big(b, false)).shiftRight(64).longValue());
        each("mulhu", (a, b) -> big(a, false).multiply(big(b, false)).shiftRight(64).longValue());
        each("clmul", (a, b) -> withoutCarries(a, b).longValue());
        each("clmulr", (a, b) -> withoutCarries(a, b).shiftRight(63).longValue());
        each("clmulh", (a, b) -> withoutCarries(a, b).shiftRight(64).longValue());
    }

    private static BigInteger withoutCarries(long a, long b) {
        BigInteger sum = BigInteger.ZERO;
        for (int i = 0; i < 64; i++) {
            sum = (b >>> i & 1) != 0 ? sum.xor(big(a, false).shiftLeft(i)) : sum;
        }
        return sum;
    }

    private static long divided(long a, long b, boolean signed, boolean rest) {
        if (b == 0) {
            return rest ? a : -1;
        }
        BigInteger[] both = big(a, signed).divideAndRemainder(big(b, signed));
        return both[rest ? 1 : 0].longValue();
    }

    private static long dividedW(long a, long b, boolean signed, boolean rest) {
        long c = signed ? (int) a : a & 0xffffffffL;
        long d = signed ? (int) b : b & 0xffffffffL;
        return (int) (d == 0 ? rest ? c : -1 : rest ? c % d : c / d);
    }

    private static void quotients() {
        each("div", (a, b) -> divided(a, b, true, false));
        each("divu", (a, b) -> divided(a, b, false, false));
        each("rem", (a, b) -> divided(a, b, true, true));
        each("remu", (a, b) -> divided(a, b, false, true));
        each("divw", (a, b) -> dividedW(a, b, true, false));
        each("divuw", (a, b) -> dividedW(a, b, false, false));
        each("remw", (a, b) -> dividedW(a, b, true, true));
        each("remuw", (a, b) -> dividedW(a, b, false, true));
    }

    private static void bits() {
        each("bset", (a, b) -> a | 1L << (b & 63));
        each("bclr", (a, b) -> a & ~(1L << (b & 63)));
        each("binv", (a, b) -> a ^ 1L << (b & 63));
        each("bext", (a, b) -> a >>> (b & 63) & 1);
    }

    private static void narrow() {
        each("addw", (a, b) -> (int) (a + b));
        each("subw", (a, b) -> (int) (a - b));
        each("mulw", (a, b) -> (int) (a * b));
        each("sllw", (a, b) -> (int) a << (int) (b & 31));
        each("srlw", (a, b) -> (int) a >>> (int) (b & 31));
        each("sraw", (a, b) -> (int) a >> (int) (b & 31));
        each("rolw", (a, b) -> Integer.rotateLeft((int) a, (int) (b & 31)));
        each("rorw", (a, b) -> Integer.rotateRight((int) a, (int) (b & 31)));
    }

    private static void immediates() {
        for (long n : new long[] {-2048, -1, 0, 1, 2047}) {
            eachOne("addi", "," + n, (a, b) -> a + n);
            eachOne("slti", "," + n, (a, b) -> a < n ? 1 : 0);
            eachOne("sltiu", "," + n, (a, b) -> big(a, false).compareTo(big(n, false)) < 0 ? 1 : 0);
            eachOne("xori", "," + n, (a, b) -> a ^ n);
            eachOne("ori", "," + n, (a, b) -> a | n);
            eachOne("andi", "," + n, (a, b) -> a & n);
            eachOne("addiw", "," + n, (a, b) -> (int) (a + n));
        }
    }

    private static void shiftsByNumbers() {
        for (int n : SHIFTS) {
            eachOne("slli", "," + n, (a, b) -> a << n);
            eachOne("srli", "," + n, (a, b) -> a >>> n);
            eachOne("srai", "," + n, (a, b) -> a >> n);
            eachOne("rori", "," + n, (a, b) -> Long.rotateRight(a, n));
            eachOne("slli.uw", "," + n, (a, b) -> (a & 0xffffffffL) << n);
            eachOne("bseti", "," + n, (a, b) -> a | 1L << n);
            eachOne("bclri", "," + n, (a, b) -> a & ~(1L << n));
            eachOne("binvi", "," + n, (a, b) -> a ^ 1L << n);
            eachOne("bexti", "," + n, (a, b) -> a >>> n & 1);
            if (n < 32) {
                eachOne("slliw", "," + n, (a, b) -> (int) a << n);
                eachOne("srliw", "," + n, (a, b) -> (int) a >>> n);
                eachOne("sraiw", "," + n, (a, b) -> (int) a >> n);
                eachOne("roriw", "," + n, (a, b) -> Integer.rotateRight((int) a, n));
            }
        }
    }

    private static void ofOne() {
        eachOne("clz", "", (a, b) -> Long.numberOfLeadingZeros(a));
        eachOne("ctz", "", (a, b) -> Long.numberOfTrailingZeros(a));
        eachOne("cpop", "", (a, b) -> Long.bitCount(a));
        eachOne("clzw", "", (a, b) -> Integer.numberOfLeadingZeros((int) a));
        eachOne("ctzw", "", (a, b) -> Integer.numberOfTrailingZeros((int) a));
        eachOne("cpopw", "", (a, b) -> Integer.bitCount((int) a));
        eachOne("sext.b", "", (a, b) -> (byte) a);
        eachOne("sext.h", "", (a, b) -> (short) a);
        eachOne("zext.h", "", (a, b) -> a & 0xffff);
        eachOne("rev8", "", (a, b) -> Long.reverseBytes(a));
        eachOne("orc.b", "", (a, b) -> full(a));
    }

    /** Each byte that isn't 0 is 255. */
    private static long full(long a) {
        long sum = 0;
        for (int shift = 0; shift < 64; shift += 8) {
            sum |= (a >>> shift & 255) != 0 ? 255L << shift : 0;
        }
        return sum;
    }

    private static void branches() {
        taken("beq", (a, b) -> a == b ? 1 : 0);
        taken("bne", (a, b) -> a != b ? 1 : 0);
        taken("blt", (a, b) -> a < b ? 1 : 0);
        taken("bge", (a, b) -> a >= b ? 1 : 0);
        taken("bltu", (a, b) -> big(a, false).compareTo(big(b, false)) < 0 ? 1 : 0);
        taken("bgeu", (a, b) -> big(a, false).compareTo(big(b, false)) >= 0 ? 1 : 0);
    }

    private static void atomics() {
        atomic("amoswap", (a, b) -> b);
        atomic("amoadd", (a, b) -> a + b);
        atomic("amoxor", (a, b) -> a ^ b);
        atomic("amoand", (a, b) -> a & b);
        atomic("amoor", (a, b) -> a | b);
        atomic("amomin", (a, b) -> Math.min(a, b));
        atomic("amomax", (a, b) -> Math.max(a, b));
        atomic("amominu", (a, b) -> Long.compareUnsigned(a, b) < 0 ? a : b);
        atomic("amomaxu", (a, b) -> Long.compareUnsigned(a, b) < 0 ? b : a);
    }

    /** Of 64 and of 32 bits: what was there comes to a2, what is there then to a3; 3 calls a pair. */
    private static void atomic(String name, LongBinaryOperator want) {
        for (int wide = 0; wide < 2; wide++) {
            RiscMonitor x = Check.house(1, 2, "la s0,v", "la s3,w", "la s2,0x80001000", "b: ld a0,0(s0)", "la s1,v", "a: ld a1,0(s1)",
                    "sd a0,0(s2)", name + (wide == 1 ? ".d" : ".w") + " a2,a1,(s2)", "ld a3,0(s2)",
                    "addi s1,s1,8", "bne s1,s3,a", "addi s0,s0,8", "j b", ".align 3", "v: .dword " + row(), "w:");
            x.run(0, 6);
            for (long a : NUMBERS) {
                x.run(0, 3);
                for (long b : NUMBERS) {
                    x.run(0, 6);
                    long was = wide == 1 ? a : (int) a;
                    long now = want.applyAsLong(was, wide == 1 ? b : (int) b);
                    CHECK.due(name + " of " + a + ", " + b + ": rd", x.register(0, 0, 12), was);
                    CHECK.due(name + " of " + a + ", " + b, x.register(0, 0, 13), wide == 1 ? now : a & -1L << 32 | now & 0xffffffffL);
                }
                x.run(0, 2);
            }
        }
    }

    /** Whether a branch is taken, of each two of the numbers: a2 is 1 if it is. */
    private static void taken(String name, LongBinaryOperator want) {
        RiscMonitor x = Check.house(1, 1, "la s0,v", "la s3,w", "b: ld a0,0(s0)", "la s1,v", "a: ld a1,0(s1)", "li a2,1",
                name + " a0,a1,c", "li a2,0",
                "c: addi s1,s1,8", "bne s1,s3,a", "addi s0,s0,8", "j b", ".align 3", "v: .dword " + row(), "w:");
        x.run(0, 4);
        for (long a : NUMBERS) {
            x.run(0, 3);
            for (long b : NUMBERS) {
                long due = want.applyAsLong(a, b);
                x.run(0, due == 1 ? 5 : 6);
                CHECK.due(name + " of " + a + ", " + b, x.register(0, 0, 12), due);
            }
            x.run(0, 2);
        }
    }
}
