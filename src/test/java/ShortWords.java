/** The document's words of 16 bits (term 3), written anew: which instruction each of them is. */
final class ShortWords {
    private ShortWords() {
    }

    /** What is listed of a word of 16 bits whose lowest two bits are not 3. */
    static String listed(int c) {
        int code = c >>> 13 & 7;
        String text = (c & 3) == 0 ? zero(c, code) : (c & 3) == 1 ? one(c, code) : two(c, code);
        return text == null ? ".half " + c : "c." + text;
    }

    private static long n(int c, boolean signed, int lowest, int... places) {
        return Table.bits(c, signed, places) << lowest;
    }

    private static String zero(int c, int code) {
        String p = "x" + (8 + (c >>> 7 & 7));
        String q = "x" + (8 + (c >>> 2 & 7));
        long four = n(c, false, 2, 6, 10, 11, 12, 5);
        long eight = n(c, false, 3, 10, 11, 12, 5, 6);
        long stack = n(c, false, 2, 6, 5, 11, 12, 7, 8, 9, 10);
        return switch (code) {
            case 0 -> stack == 0 ? null : "addi " + q + ", x2, " + stack;
            case 2 -> "lw " + q + ", " + four + "(" + p + ")";
            case 3 -> "ld " + q + ", " + eight + "(" + p + ")";
            case 6 -> "sw " + q + ", " + four + "(" + p + ")";
            case 7 -> "sd " + q + ", " + eight + "(" + p + ")";
            default -> null;
        };
    }

    private static String one(int c, int code) {
        int r = c >>> 7 & 31;
        String p = "x" + (8 + (c >>> 7 & 7));
        long i = n(c, true, 0, 2, 3, 4, 5, 6, 12);
        long stack = n(c, true, 4, 6, 2, 5, 3, 4, 12);
        long far = n(c, true, 1, 3, 4, 5, 11, 2, 7, 6, 9, 10, 8, 12);
        long near = n(c, true, 1, 3, 4, 10, 11, 2, 5, 6, 12);
        return switch (code) {
            case 0 -> "addi x" + r + ", x" + r + ", " + i;
            case 1 -> r == 0 ? null : "addiw x" + r + ", x" + r + ", " + i;
            case 2 -> "addi x" + r + ", x0, " + i;
            case 3 -> r == 2 ? stack == 0 ? null : "addi x2, x2, " + stack : i == 0 ? null : "lui x" + r + ", " + (i & 0xfffff);
            case 4 -> computing(c, p, i);
            case 5 -> "jal x0, " + String.format("%+d", far);
            case 6 -> "beq " + p + ", x0, " + String.format("%+d", near);
            default -> "bne " + p + ", x0, " + String.format("%+d", near);
        };
    }

    private static String computing(int c, String p, long i) {
        String q = "x" + (8 + (c >>> 2 & 7));
        switch (c >>> 10 & 3) {
            case 0: return "srli " + p + ", " + p + ", " + (i & 63);
            case 1: return "srai " + p + ", " + p + ", " + (i & 63);
            case 2: return "andi " + p + ", " + p + ", " + i;
            default: break;
        }
        String[] names = {"sub", "xor", "or", "and", "subw", "addw", null, null};
        String name = names[(c >>> 12 & 1) * 4 + (c >>> 5 & 3)];
        return name == null ? null : name + " " + p + ", " + p + ", " + q;
    }

    private static String two(int c, int code) {
        int r = c >>> 7 & 31;
        int t = c >>> 2 & 31;
        boolean high = (c >>> 12 & 1) != 0;
        return switch (code) {
            case 0 -> "slli x" + r + ", x" + r + ", " + n(c, false, 0, 2, 3, 4, 5, 6, 12);
            case 2 -> r == 0 ? null : "lw x" + r + ", " + n(c, false, 2, 4, 5, 6, 12, 2, 3) + "(x2)";
            case 3 -> r == 0 ? null : "ld x" + r + ", " + n(c, false, 3, 5, 6, 12, 2, 3, 4) + "(x2)";
            case 4 -> high ? linked(r, t) : t != 0 ? "add x" + r + ", x0, x" + t : r == 0 ? null : "jalr x0, 0(x" + r + ")";
            case 6 -> "sw x" + t + ", " + n(c, false, 2, 9, 10, 11, 12, 7, 8) + "(x2)";
            case 7 -> "sd x" + t + ", " + n(c, false, 3, 10, 11, 12, 7, 8, 9) + "(x2)";
            default -> null;
        };
    }

    private static String linked(int r, int t) {
        if (t != 0) {
            return "add x" + r + ", x" + r + ", x" + t;
        }
        return r == 0 ? "ebreak" : "jalr x1, 0(x" + r + ")";
    }
}
