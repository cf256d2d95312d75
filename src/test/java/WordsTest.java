import java.util.ArrayList;
import java.util.List;
import java.util.Random;

/** Terms 2, 3 and 7, promises 5 and 6: each instruction's bits, as they are assembled and as they are listed. */
public final class WordsTest {
    private static final Check CHECK = new Check();
    private static final long RAM = Check.RAM;
    /** So few that a house is used for fewer than 512 calls. */
    private static final int WORDS_A_HOUSE = 10;

    public static void main(String[] args) {
        assembled();
        neighbours();
        anyWords();
        shortWords();
        CHECK.end();
    }

    /** Each instruction with its operands at both ends of their ranges. */
    private static void assembled() {
        CHECK.about("term 7: an instruction's name and its operands");
        for (Table.Row row : Table.ROWS) {
            int free = row.name().equals("fence") ? 0x0ff00000 : 0;
            int atomic = (row.match() & 0x7f) == 0x2f ? ~(3 << 25) : -1;
            int[] fills = row.pattern().isEmpty() ? new int[] {0} : new int[] {0, -1, 0x55555555, 0xaaaaaaaa};
            for (int fill : fills) {
                int word = row.match() | (fill & ~row.mask() | free) & atomic;
                RiscMonitor x = new RiscMonitor();
                x.computer(1, 1);
                String line = row.name() + " " + Table.operands(row, word, RAM, false);
                CHECK.due("assemble of '" + line + "'", Check.make(x, 0, RAM, line), 4);
                CHECK.due(line, Check.dword(x, 0, RAM), word & 0xffffffffL);
            }
        }
    }

    /** Words that differ from an instruction by one bit: that bit matters, or doesn't. */
    private static void neighbours() {
        CHECK.about("term 2: all others than these are ILLEGAL");
        List<Integer> words = new ArrayList<>();
        for (Table.Row row : Table.ROWS) {
            words.add(row.match());
            for (int bit = 2; bit < 32; bit++) {
                words.add(row.match() ^ 1 << bit);
            }
        }
        list(words);
    }

    private static void anyWords() {
        CHECK.about("promise 6: any word");
        Random random = new Random(5);
        List<Integer> words = new ArrayList<>();
        for (int i = 0; i < 1000; i++) {
            Table.Row row = Table.ROWS.get(random.nextInt(Table.ROWS.size()));
            words.add(i % 5 == 0 ? random.nextInt() | 3 : row.match() | random.nextInt() & ~row.mask());
        }
        list(words);
    }

    private static void list(List<Integer> words) {
        for (int from = 0; from < words.size(); from += WORDS_A_HOUSE) {
            List<Integer> some = words.subList(from, Math.min(from + WORDS_A_HOUSE, words.size()));
            StringBuilder line = new StringBuilder(".word ");
            for (int word : some) {
                line.append(line.length() > 6 ? "," : "").append("0x").append(Integer.toHexString(word));
            }
            RiscMonitor x = Check.house(1, 1, line.toString());
            for (int i = 0; i < some.size(); i++) {
                CHECK.due("list of " + Integer.toHexString(some.get(i)), Check.listed(x, 0, RAM + 4 * i), Table.listed(some.get(i)));
            }
        }
    }

    /** All of them. */
    private static void shortWords() {
        CHECK.about("term 3: words of 16 bits");
        List<Integer> halves = new ArrayList<>();
        for (int c = 0; c < 65536; c++) {
            if ((c & 3) != 3) {
                halves.add(c);
            }
        }
        for (int from = 0; from < halves.size(); from += 16) {
            List<Integer> some = halves.subList(from, Math.min(from + 16, halves.size()));
            StringBuilder line = new StringBuilder(".half ");
            for (int half : some) {
                line.append(line.length() > 6 ? "," : "").append(half);
            }
            RiscMonitor x = Check.house(1, 1, line.toString());
            for (int i = 0; i < some.size(); i++) {
                CHECK.due("list of half " + Integer.toHexString(some.get(i)), Check.listed(x, 0, RAM + 2 * i), ShortWords.listed(some.get(i)));
            }
        }
    }
}
