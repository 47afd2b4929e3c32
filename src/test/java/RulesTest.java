import com.sun.management.ThreadMXBean;
import java.lang.management.ManagementFactory;
import java.lang.reflect.Field;
import java.lang.reflect.Method;
import java.lang.reflect.Modifier;
import java.nio.charset.StandardCharsets;
import java.nio.file.Files;
import java.nio.file.Paths;
import java.util.Arrays;
import java.util.Random;
import java.util.TreeSet;
import java.util.regex.Matcher;
import java.util.regex.Pattern;

/** The public face and nothing else; the rules of LANGUAGE.md that can be seen in the text; no call that throws. */
public final class RulesTest {
    private static final String[] FACE = {
        "feed(int,int)", "agenda()", "of(int,int)", "lawful(int,int)", "broken(int,int)", "stands(int,int,int)",
        "forced(int,int,int,int)", "why(int,int,int)", "judge(int,int,int,int)", "change(int,int,int,int)",
        "read(int,int,int,int)", "clear(int)", "ofJudge(int,int,int)", "votes(int,int,int)", "far(int,int)",
        "nearest(int,int)", "way(int,int,int)", "ofWay(int,int)", "outcome(int,int,int)", "benches(int,int)",
        "unlawful(int,int,int,int)", "unlike(int,int,int,int,int)", "sway(int,int,int,int)", "twist(int,int,int)",
        "twisted(int,int,int)", "breach(int,int,int,int)", "keeper(int,int,int)", "mend(int,int,int)",
        "orders(int,int,int)", "act(int,int,int)", "trace(int)", "keep(int,int)", "row(int,int,int)",
        "put(int,int,long)", "element(int,int)", "shift(int,int,int,int,int)", "taken(int,int)", "count(int)",
    };
    private static final String[] NEVER = {
        "throw", "throws", "try", "catch", "finally", "synchronized", "assert", "protected", "import static",
        "hashCode", "toString", "equals", "Object", "System\\.out", "System\\.(?!arraycopy)\\w+", "\\w+Exact", "Random",
        "Thread", "float", "double",
    };
    private static int wrong = 0;

    public static void main(String[] args) throws Exception {
        face();
        source();
        wildCalls();
        room();
        System.out.println(wrong == 0 ? "the face and the rules are kept" : wrong + " rules are broken");
        if (wrong != 0) System.exit(1);
    }

    private static void holds(String rule, boolean kept) {
        if (kept) return;
        wrong++;
        System.out.println("broken: " + rule);
    }

    private static void face() throws Exception {
        Class<?> c = DoorBench.class;
        holds("public and final", Modifier.isPublic(c.getModifiers()) && Modifier.isFinal(c.getModifiers()));
        holds("one public constructor", c.getDeclaredConstructors().length == 1 && c.getConstructors().length == 1);
        TreeSet<String> due = new TreeSet<>(Arrays.asList(FACE)), found = new TreeSet<>(), names = new TreeSet<>();
        for (String method : FACE) names.add(method.substring(0, method.indexOf('(')));
        for (Method m : c.getDeclaredMethods()) {
            if (Modifier.isPrivate(m.getModifiers()) || m.isSynthetic()) {
                holds("no private method bears a public name: " + m.getName(), m.isSynthetic() || !names.contains(m.getName()));
                continue;
            }
            String types = Arrays.toString(m.getParameterTypes()).replaceAll("[\\[\\] ]", "");
            found.add(m.getName() + "(" + types + ")");
            Class<?> answer = m.getName().equals("element") ? long.class : int.class;
            holds("a public method of the face: " + m, Modifier.isPublic(m.getModifiers()) && m.getReturnType() == answer);
        }
        holds("the face is the document's: " + found, due.equals(found));
        TreeSet<String> constants = new TreeSet<>();
        for (Field f : c.getDeclaredFields()) {
            if (Modifier.isPrivate(f.getModifiers())) continue;
            constants.add(f.getName() + f.get(null));
        }
        holds("the constants: " + constants, constants.toString().equals("[BAD-1, BIG-4, FULL-3, NOT-2, VOID-2000000000]"));
        for (Class<?> inside : c.getDeclaredClasses()) {
            holds("static: " + inside, Modifier.isStatic(inside.getModifiers()));
            for (Method m : inside.getDeclaredMethods()) holds("a name of the face inside: " + m, !names.contains(m.getName()));
            holds("twenty fields: " + inside, inside.getDeclaredFields().length <= 20);
        }
        holds("twelve classes", c.getDeclaredClasses().length <= 11);
    }

    private static void source() throws Exception {
        String text = new String(Files.readAllBytes(Paths.get("src/main/java/DoorBench.java")), StandardCharsets.UTF_8);
        text = text.replaceAll("(?s)/\\*.*?\\*/", "").replaceAll("//[^\n]*", "");
        for (String word : NEVER) holds("never: " + word, !Pattern.compile("\\b" + word + "\\b").matcher(text).find());
        holds("no lambda, no method reference", !text.contains("->") && !text.contains("::"));
        holds("no text at all", !text.contains("\""));
        holds("one import", text.indexOf("import ") == text.lastIndexOf("import ") && text.contains("import java.util.Arrays;"));
        Matcher statics = Pattern.compile("(?m)^\\s*(private|public)?\\s*static (?!final)\\w+(\\[\\])? \\w+( =|;)").matcher(text);
        holds("static fields are final", !statics.find());
        Matcher parameters = Pattern.compile("\\w+ \\w+\\(((?:\\w+(?:\\[\\])? \\w+(?:, )?)*)\\) \\{").matcher(text);
        while (parameters.find()) holds("seven parameters: " + parameters.group(), parameters.group(1).split(",").length <= 7);
        shortMethods(text);
    }

    private static void shortMethods(String text) {
        int from = -1;
        String[] lines = text.split("\n");
        for (int i = 0; i < lines.length; i++) {
            if (lines[i].matches("^ {4}( {4})?[\\w\\[\\] ]+\\(.*\\) \\{$") && !lines[i].contains(" class ")) from = i;
            if (from >= 0 && lines[i].matches("^ {4}( {4})?\\}$")) {
                holds("sixty lines: " + lines[from].trim(), i - from <= 60);
                from = -1;
            }
        }
    }

    private static void wildCalls() {
        Random random = new Random(39);
        Method[] methods = Arrays.stream(DoorBench.class.getDeclaredMethods())
            .filter(m -> Modifier.isPublic(m.getModifiers())).toArray(Method[]::new);
        Arrays.sort(methods, (a, b) -> a.toString().compareTo(b.toString()));
        String[] texts = {"q abc;p ab;e c;t c=a&b", "q abcdefghij;t a;t j>b", "q a;t (a", "q ab;t 3{a,b}", "q abcd;t 1{a,b,c}"};
        for (int run = 0; run < 600; run++) {
            DoorBench x = new DoorBench();
            for (int i = 0; i < 400; i++) {
                if (i % 50 == 0) {
                    String text = texts[random.nextInt(texts.length)];
                    for (char c : text.toCharArray()) x.feed(1, c);
                    x.agenda();
                }
                wildCall(x, methods[random.nextInt(methods.length)], random);
            }
        }
    }

    /**
     * Rule 12: what a run makes is counted. Some 600,000 objects of 7.3 million elements are the room of a
     * run; a run of 512 calls that makes as much as it can stays under a fiftieth of that, at four bytes each.
     */
    private static void room() {
        ThreadMXBean threads = (ThreadMXBean) ManagementFactory.getThreadMXBean();
        if (!threads.isThreadAllocatedMemorySupported() || !threads.isThreadAllocatedMemoryEnabled()) return;
        dearRun();
        long before = threads.getThreadAllocatedBytes(Thread.currentThread().getId());
        dearRun();
        long made = threads.getThreadAllocatedBytes(Thread.currentThread().getId()) - before;
        holds("a run's room: " + made + " bytes", made < 584_000);
    }

    /** 512 calls: eight agendas, four of them with all 1024 sets, all ways, then all that goes through benches. */
    private static void dearRun() {
        DoorBench x = new DoorBench();
        int calls = 0;
        for (int a = 0; a < 8; a++) {
            String text = a < 4 ? "q abcdefghij" : "q abc;t 1{a,b,c};t !(a&b&c)";
            for (int i = 0; i < text.length(); i += 4) {
                int n = Math.min(4, text.length() - i), v = 0;
                for (int k = 0; k < n; k++) v |= text.charAt(i + k) << 8 * k;
                x.feed(n, v);
                calls++;
            }
            x.agenda();
            x.judge(a, 1, 1, 6);
            calls += 2;
        }
        for (int w = 0; w < 20; w++) x.way(w % 8, w % 10, w % 9);
        for (calls += 20; calls < 512; calls++) {
            int w = calls % 20, a = 4 + calls % 4;
            switch (calls % 7) {
                case 0: x.twisted(w, a, 5); break;
                case 1: x.unlike(w, 1, a, 5, 0); break;
                case 2: x.breach(w, a, 3, calls % 5); break;
                case 3: x.keeper(a, 3, 31); break;
                case 4: x.mend(a, 5, 0); break;
                case 5: x.twist(w, a, 0); break;
                default: x.act(w, 3, calls); break;
            }
        }
    }

    private static void wildCall(DoorBench x, Method m, Random random) {
        Object[] given = new Object[m.getParameterCount()];
        for (int i = 0; i < given.length; i++) {
            int v = wild(random);
            given[i] = m.getParameterTypes()[i] == long.class ? (Object) (long) v : (Object) v;
        }
        try {
            m.invoke(x, given);
        } catch (ReflectiveOperationException e) {
            holds("no call throws: " + m.getName() + Arrays.toString(given) + " " + e.getCause(), false);
        }
    }

    private static int wild(Random random) {
        switch (random.nextInt(20)) {
            case 0: return Integer.MIN_VALUE;
            case 1: return Integer.MAX_VALUE;
            case 2: return -1;
            case 3: return random.nextInt();
            case 4: return random.nextInt(2048) - 4;
            case 5: return 1 << random.nextInt(32);
            case 6: return random.nextInt(70) - 5;
            default: return random.nextInt(5);
        }
    }
}
