import java.nio.file.Files;
import java.nio.file.Path;
import java.util.List;

/** Rules of ../shared/LANGUAGE.md that can be seen in the text of the program, so that none is broken unseen. */
public final class RulesTest {
    private static final Check CHECK = new Check();
    private static final int MOST_LINES = 60;
    private static final int MOST_PARAMETERS = 7;

    public static void main(String[] args) throws Exception {
        List<String> lines = Files.readAllLines(Path.of("src/main/java/RiscMonitor.java"));
        words(lines);
        methods(lines);
        CHECK.end();
    }

    private static void words(List<String> lines) {
        CHECK.about("rules 2, 4, 5, 6 and 13");
        String[] banned = {"->", "::", " catch ", "finally", "synchronized", "assert ", "instanceof", "Exact(", "static {", "package ",
            "System.out", "System.nano", "System.current", "Random", "Thread", "hashCode", "String.format", "double ", "float "};
        for (String word : banned) {
            long found = lines.stream().filter(line -> line.contains(word)).count();
            CHECK.due("lines with '" + word + "'", found, 0);
        }
        long imports = lines.stream().filter(line -> line.startsWith("import ") && !line.equals("import java.util.Arrays;")).count();
        CHECK.due("other imports", imports, 0);
        long statics = lines.stream().filter(line -> line.contains(" static ") && line.contains(" = ") && !line.contains(" final ")).count();
        CHECK.due("static fields that are not final", statics, 0);
    }

    private static void methods(List<String> lines) {
        CHECK.about("rules 1 and 11");
        int classes = 0;
        for (int i = 0; i < lines.size(); i++) {
            String line = lines.get(i);
            classes += line.contains(" class ") && line.endsWith("{") || line.contains(" enum ") && line.endsWith("{") ? 1 : 0;
            boolean method = line.matches(" {4}( {4})?[a-zA-Z][\\w\\[\\] ]*\\([^()]*\\)( throws \\w+)? \\{") && !line.trim().startsWith("return");
            if (!method) {
                continue;
            }
            String indent = line.substring(0, line.length() - line.stripLeading().length());
            int end = i;
            while (!lines.get(end).equals(indent + "}")) {
                end++;
            }
            CHECK.due("too long: " + line.trim(), end - i + 1 > MOST_LINES ? 1 : 0, 0);
            String parameters = line.substring(line.indexOf('(') + 1, line.indexOf(')'));
            CHECK.due("too many parameters: " + line.trim(), parameters.split(",").length > MOST_PARAMETERS ? 1 : 0, 0);
            if (line.startsWith("    public ") && !line.contains("RiscMonitor(")) {
                String name = line.substring(0, line.indexOf('(')).replaceAll(".* ", "");
                long same = lines.stream().filter(other -> other.matches(" +[a-zA-Z][\\w\\[\\] ]* " + name + "\\([^()]*\\)( throws \\w+)? \\{")
                        && !other.trim().startsWith("return") && !other.trim().startsWith("else")).count();
                CHECK.due("methods named " + name, same, 1);
            }
        }
        CHECK.due("too many classes", classes > 13 ? 1 : 0, 0);
    }
}
