import java.lang.reflect.InvocationTargetException;
import java.lang.reflect.Method;
import java.nio.file.Files;
import java.nio.file.Path;
import java.util.HashMap;
import java.util.Map;
import java.util.regex.Matcher;
import java.util.regex.Pattern;

/** README.md's examples: each call is made, and must answer what is written behind it. */
public final class ReadmeTest {
    private static final Check CHECK = new Check();
    private static final Pattern CALL =
            Pattern.compile("(?:int (\\w+) = )?house\\.(\\w+)\\(([^)]*)\\);\\s+// (-?\\d+|throws IllegalArgumentException)(?:[: ].*)?");
    private static final Pattern TYPE = Pattern.compile("type\\(house, \"([^\"]*)\"\\);");
    private static final int LEAST_CALLS = 50;

    private static final Map<String, Long> NAMES = new HashMap<>();
    private static RiscMonitor house;
    private static int calls;

    public static void main(String[] args) throws Exception {
        boolean inside = false;
        for (String line : Files.readAllLines(Path.of("README.md"))) {
            CHECK.about(line);
            if (line.startsWith("```")) {
                inside = line.equals("```java");
            } else if (inside) {
                follow(line);
            }
        }
        CHECK.about("README.md");
        CHECK.due("too few calls", calls < LEAST_CALLS ? 1 : 0, 0);
        CHECK.end();
    }

    private static void follow(String line) throws Exception {
        Matcher typed = TYPE.matcher(line);
        Matcher call = CALL.matcher(line);
        if (line.equals("RiscMonitor house = new RiscMonitor();")) {
            house = new RiscMonitor();
        } else if (typed.matches()) {
            Check.type(house, typed.group(1).replace("\\n", "\n"));
        } else if (call.matches()) {
            calls++;
            String answer = answer(call.group(2), call.group(3).split(", "));
            CHECK.due("it", answer, call.group(4));
            if (call.group(1) != null) {
                NAMES.put(call.group(1), Long.parseLong(answer));
            }
        } else {
            CHECK.due("a line that is no call", 1, 0);
        }
    }

    private static String answer(String name, String[] texts) throws Exception {
        for (Method method : RiscMonitor.class.getMethods()) {
            if (method.getName().equals(name) && method.getParameterCount() == texts.length) {
                Object[] values = new Object[texts.length];
                for (int i = 0; i < texts.length; i++) {
                    values[i] = value(texts[i], method.getParameterTypes()[i]);
                }
                try {
                    return method.invoke(house, values).toString();
                } catch (InvocationTargetException e) {
                    return "throws " + e.getCause().getClass().getSimpleName();
                }
            }
        }
        return "no such call";
    }

    private static Object value(String text, Class<?> type) {
        if (type == boolean.class) {
            return text.equals("true");
        }
        long number = NAMES.containsKey(text) ? NAMES.get(text) : Long.decode(text.replace("L", ""));
        if (type == int.class) {
            return (int) number;
        }
        return number;
    }
}
