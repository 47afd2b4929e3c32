import java.lang.reflect.Method;
import java.nio.charset.StandardCharsets;
import java.nio.file.Files;
import java.nio.file.Paths;
import java.util.HashMap;
import java.util.List;
import java.util.Map;
import java.util.regex.Matcher;
import java.util.regex.Pattern;

/** Makes the calls of README.md's Java examples, as one run, and compares the answers told behind them. */
public final class ReadmeTest {
    private static final Pattern TEXT = Pattern.compile("for \\(char c : \"(.*)\"\\.toCharArray\\(\\)\\) x\\.feed\\(1, c\\);");
    private static final Pattern CALL = Pattern.compile("(?:int (\\w+) = )?x\\.(\\w+)\\((.*?)\\);\\s*// (-?\\d+)(?:\\D.*)?");
    private static final Map<String, Integer> NAMES = new HashMap<>();
    private static DoorBench bench;
    private static int wrong, calls;

    public static void main(String[] args) throws Exception {
        List<String> lines = Files.readAllLines(Paths.get("README.md"), StandardCharsets.UTF_8);
        boolean inExample = false;
        for (int i = 0; i < lines.size(); i++) {
            String line = lines.get(i);
            if (line.startsWith("```")) {
                inExample = line.equals("```java");
            } else if (inExample) {
                follow(i + 1, line);
            }
        }
        if (calls < 40) fail(0, "only " + calls + " calls were found");
        System.out.println(wrong == 0 ? "README: " + calls + " answers as told" : wrong + " lines of README.md are wrong");
        if (wrong != 0) System.exit(1);
    }

    private static void fail(int line, String what) {
        wrong++;
        System.out.println("README.md, line " + line + ": " + what);
    }

    private static void follow(int number, String line) throws Exception {
        if (line.equals("DoorBench x = new DoorBench();")) {
            bench = new DoorBench();
            return;
        }
        Matcher text = TEXT.matcher(line), call = CALL.matcher(line);
        if (text.matches()) {
            for (char c : text.group(1).toCharArray()) bench.feed(1, c);
        } else if (call.matches()) {
            long got = answer(call.group(2), call.group(3));
            if (got != Long.parseLong(call.group(4))) fail(number, line + " answered " + got);
            if (call.group(1) != null) NAMES.put(call.group(1), (int) got);
            calls++;
        } else {
            fail(number, "no call with an answer: " + line);
        }
    }

    private static long answer(String name, String arguments) throws Exception {
        String[] told = arguments.isEmpty() ? new String[0] : arguments.split(", ");
        for (Method m : DoorBench.class.getDeclaredMethods()) {
            if (!m.getName().equals(name) || m.getParameterCount() != told.length) continue;
            Object[] given = new Object[told.length];
            for (int i = 0; i < told.length; i++) {
                int v = NAMES.containsKey(told[i]) ? NAMES.get(told[i]) : Integer.parseInt(told[i]);
                given[i] = m.getParameterTypes()[i] == long.class ? (Object) (long) v : (Object) v;
            }
            return ((Number) m.invoke(bench, given)).longValue();
        }
        throw new IllegalStateException("no such call: " + name);
    }
}
