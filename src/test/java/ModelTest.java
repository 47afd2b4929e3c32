import java.util.ArrayList;
import java.util.List;
import java.util.Random;

/**
 * Runs of calls drawn by fixed seeds, each call put to DoorBench and to Model; every unlike answer
 * is printed. Arguments: how many runs (default 400), the first seed (default 1).
 */
public final class ModelTest {
    private static final String[] NAMES = {
        "feed", "agenda", "of", "lawful", "broken", "stands", "forced", "why", "judge", "change", "read", "clear",
        "ofJudge", "votes", "far", "nearest", "way", "ofWay", "outcome", "benches", "unlawful", "unlike", "sway",
        "twist", "twisted", "breach", "keeper", "mend", "orders", "act", "trace", "keep", "row", "put", "element",
        "shift", "taken", "count",
    };
    // How often each call is drawn; the dear ones seldom.
    private static final int[] OFTEN = {
        1, 2, 3, 4, 4, 5, 6, 6, 10, 8, 8, 1,
        3, 4, 4, 5, 6, 2, 25, 2, 6, 6, 5,
        10, 3, 10, 5, 3, 6, 8, 6, 3, 5, 8, 5,
        5, 3, 4,
    };

    // Agendas known to be hard for heads, for premises and ends, or in turns.
    private static final String[] FIRST = {
        "q abc;p ab;e c;t c=a&b", "q abc;p ab;e c;t c=(a=b)", "q abcd;p abc;e d;t d=2{a,b,c}",
        "q abcd;p ab;e cd;t c=a&b;t d=a|b", "q abc;e a;t 1{a,b,c};t !(a&b);t !(b&c);t !(a&c)",
        "q abcde;p ab;e e;t a=b;t c>d;t e=2{b,c,d};t d>c", "q abcdef;t a=b=c;t d=e&f;p de;e f;t a>d",
        "q abcdefghij;p abc;e j;t a=b;t c=d;t e=f;t g=h;t i=j;t j=a&c;t e=g",
        "q abcd;e cd;t 2{a,b,c,d};t !3{a,b,c,d}", "q cab;p ca;e b;t c&a=b", "q abcd;t a>b;t b>c;t c>d",
        "q abcdef;t 1{a,b,c,d,e,f};t !2{a,b,c,d,e,f};e f;p ab",
    };

    private final Random random;
    private final DoorBench real = new DoorBench();
    private final Model model = new Model();
    private final List<String> log = new ArrayList<>();
    private boolean wrong, scene;

    private ModelTest(long seed) {
        random = new Random(seed);
    }

    public static void main(String[] args) {
        int runs = args.length > 0 ? Integer.parseInt(args[0]) : 400;
        long first = args.length > 1 ? Long.parseLong(args[1]) : 1;
        int wrong = 0;
        for (long seed = first; seed < first + runs; seed++) {
            ModelTest run = new ModelTest(seed);
            run.go();
            if (!run.wrong) continue;
            wrong++;
            System.out.println("seed " + seed + ":");
            for (String line : run.log) System.out.println("  " + line);
            if (wrong >= 3) break;
        }
        System.out.println(wrong == 0 ? runs + " runs as the model's" : "unlike the model");
        if (wrong != 0) System.exit(1);
    }

    private void go() {
        if (random.nextInt(3) > 0) setScene();
        int sum = 0;
        for (int often : OFTEN) sum += often;
        for (int i = 0; i < 180 && !wrong && log.size() < 500; i++) {
            if (random.nextInt(scene ? 60 : 25) == 0) {
                tell(random.nextInt(4) == 0 ? spoiled(agendaText()) : agendaText());
                continue;
            }
            if (scene && random.nextInt(40) == 0) twistAll();
            int draw = random.nextInt(sum), op = 0;
            while (draw >= OFTEN[op]) draw -= OFTEN[op++];
            drawCall(op);
        }
    }

    // ---- agendas

    /** An agenda of some lawful sets, but not too many, with ties that heads can break, judges, and ways of all kinds. */
    private void setScene() {
        scene = true;
        String text = FIRST[random.nextInt(FIRST.length)];
        boolean own = random.nextInt(3) > 0, hard = random.nextBoolean();
        for (int i = 0; i < 200 && own; i++) {
            text = agendaText();
            if (!Model.isAgenda(text)) continue;
            Model trial = new Model();
            trial.tape.append(text);
            if (trial.agenda() != 0 || trial.of(0, 4) < 3 || trial.of(0, 4) > 12 || trial.of(0, 1) == 0) continue;
            if (!hard || trial.mend(0, 3, 0) != 0) break;
        }
        tell(text);
        Model.Agenda a = agendaOf(0);
        int all = (1 << a.questions) - 1, judges = random.nextInt(7);
        for (int i = 0; i < judges && !a.lawful.isEmpty(); i++) {
            int set = a.lawful.get(random.nextInt(a.lawful.size())), tells = random.nextInt(4) > 0 ? all : random.nextInt(all + 1);
            call(8, 0, random.nextInt(3) > 0 ? 1 : 1 + random.nextInt(9), set & tells, ~set & tells & all, 0, 0);
        }
        for (int kind = 0; kind < 8; kind++) call(16, kind, random.nextInt(10), random.nextInt(4), 0, 0, 0);
        for (int shelf = 0; shelf < 3; shelf++) call(32, shelf, random.nextInt(3) > 0 ? 4 : random.nextInt(5), random.nextInt(12), 0, 0, 0);
    }

    /** Twists of all judges by all ways, with whole sets newly drawn: they are too seldom to wait for. */
    private void twistAll() {
        Model.Agenda a = agendaOf(0);
        int all = (1 << a.questions) - 1;
        for (int j = 0; j < a.bench.size(); j++) {
            int set = a.lawful.get(random.nextInt(a.lawful.size()));
            call(9, 0, j, set, all & ~set, 0, 0);
        }
        for (int w = 0; w < model.ways.size(); w++) {
            for (int j = 0; j < a.bench.size(); j++) call(23, w, 0, j, 0, 0, 0);
        }
    }

    private void tell(String text) {
        for (int i = 0; i < text.length(); ) {
            int n = Math.min(1 + random.nextInt(4) | (random.nextInt(3) > 0 ? 4 : 1), Math.min(4, text.length() - i));
            int v = random.nextInt() << 8 * n % 32;
            if (n == 4) v = 0;
            for (int k = 0; k < n; k++) v = v & ~(255 << 8 * k) | text.charAt(i + k) << 8 * k;
            call(0, n, v, 0, 0, 0, 0);
            i += n;
        }
        call(1, 0, 0, 0, 0, 0, 0);
    }

    private String agendaText() {
        int questions = random.nextInt(4) > 0 ? 2 + random.nextInt(4) : 1 + random.nextInt(10);
        StringBuilder letters = new StringBuilder("abcdefghij");
        StringBuilder chosen = new StringBuilder();
        for (int i = 0; i < questions; i++) {
            int at = random.nextInt(3) == 0 ? random.nextInt(letters.length()) : 0;
            chosen.append(letters.charAt(at));
            letters.deleteCharAt(at);
        }
        StringBuilder text = new StringBuilder("q " + chosen);
        boolean p = random.nextInt(3) > 0, e = random.nextInt(3) > 0;
        int ties = random.nextInt(5) == 0 ? random.nextInt(9) : random.nextInt(4);
        if (questions > 5) ties = 3 + random.nextInt(6);
        for (int i = 0; i < ties + 2; i++) {
            if (p && random.nextInt(ties + 1) == 0) {
                p = false;
                text.append(";p ").append(some(chosen.toString()));
            }
            if (e && random.nextInt(ties + 1) == 0) {
                e = false;
                text.append(";e ").append(some(chosen.toString()));
            }
            if (i < ties) {
                String tie = tie(chosen.toString(), 1 + random.nextInt(3), 0);
                if (random.nextInt(2) == 0) tie = letter(chosen.toString()) + "=" + tie;
                if (text.length() + tie.length() + 3 <= 160) text.append(";t ").append(tie);
            }
        }
        return text.length() <= 160 ? text.toString() : text.substring(0, 160);
    }

    private String letter(String letters) {
        return letters.substring(random.nextInt(letters.length())).substring(0, 1);
    }

    private String some(String letters) {
        StringBuilder some = new StringBuilder();
        for (char c : letters.toCharArray()) if (random.nextInt(2) == 0) some.insert(random.nextInt(some.length() + 1), c);
        return some.length() == 0 ? letter(letters) : some.toString();
    }

    private String tie(String letters, int size, int open) {
        String left = either(letters, size, open);
        if (random.nextInt(4) == 0) left += ">" + either(letters, size, open);
        if (random.nextInt(5) == 0) left += "=" + either(letters, size - 1, open);
        return left;
    }

    private String either(String letters, int size, int open) {
        String left = simple(letters, size, open);
        for (int i = 0; i < 2; i++) if (random.nextInt(3) == 0) left += (random.nextBoolean() ? "|" : "&") + simple(letters, size, open);
        return left;
    }

    private String simple(String letters, int size, int open) {
        int most = random.nextInt(40) == 0 ? 7 : 6;
        if (size > 0 && open < most) {
            switch (random.nextInt(6)) {
                case 0: return "!" + simple(letters, size, open + 1);
                case 1: return "(" + tie(letters, size - 1, open + 1) + ")";
                case 2: {
                    StringBuilder all = new StringBuilder();
                    int many = 1 + random.nextInt(4);
                    for (int i = 0; i < many; i++) all.append(i == 0 ? "" : ",").append(tie(letters, size - 1, open + 1));
                    int least = random.nextInt(20) == 0 ? random.nextInt(10) : 1 + random.nextInt(many);
                    return least + "{" + all + "}";
                }
                default:
            }
        }
        return letter(letters);
    }

    private String spoiled(String text) {
        String signs = "abcdefghijkpqet ;!(){}&|>=,0123459~\u00e1";
        StringBuilder spoiled = new StringBuilder(text);
        int changes = 1 + random.nextInt(2);
        for (int i = 0; i < changes; i++) {
            int at = random.nextInt(spoiled.length() + 1);
            String sign = letter(signs);
            switch (random.nextInt(6)) {
                case 0: spoiled.insert(at, sign); break;
                case 1: spoiled.insert(at, "!!!!!!".substring(random.nextInt(6))); break;
                case 2: spoiled.setLength(at); break;
                case 3: spoiled.insert(at, "((((((".substring(random.nextInt(6))); break;
                case 4: if (at < spoiled.length()) spoiled.setCharAt(at, sign.charAt(0)); break;
                default: if (at < spoiled.length()) spoiled.deleteCharAt(at);
            }
        }
        return spoiled.length() <= 160 ? spoiled.toString() : spoiled.substring(0, 160);
    }

    // ---- other calls

    private int few(int from, int to) {
        return from + random.nextInt(to - from);
    }

    /** Mostly 0 .. many - 1; now and then a number beside that. */
    private int below(int many) {
        int draw = random.nextInt(scene ? 90 : 30);
        if (draw == 0) return -1;
        if (draw == 1) return many;
        if (draw == 2 && random.nextInt(3) == 0) return random.nextInt();
        return many <= 0 ? 0 : random.nextInt(many);
    }

    private Model.Agenda agendaOf(int i) {
        Model.Agenda a = model.agendaAt(i);
        return a == null ? new Model.Agenda() : a;
    }

    /** Told answers: yes and no; often from a lawful set. */
    private int[] told(Model.Agenda a) {
        int all = (1 << a.questions) - 1;
        int set = random.nextInt(3) > 0 && !a.lawful.isEmpty() ? a.lawful.get(random.nextInt(a.lawful.size())) : random.nextInt(all + 1);
        int tells = random.nextInt(3) == 0 ? all : random.nextInt(all + 1) | (random.nextBoolean() ? random.nextInt(all + 1) : 0);
        int yes = set & tells, no = ~set & tells & all;
        if (random.nextInt(40) == 0) yes |= 1 << random.nextInt(12);
        if (random.nextInt(40) == 0) no |= 1 << random.nextInt(12);
        if (random.nextInt(80) == 0) no = -1;
        if (random.nextInt(80) == 0) yes = random.nextInt();
        return new int[] {yes, no};
    }

    private void drawCall(int op) {
        int ag = scene && random.nextInt(6) > 0 ? 0 : below(model.agendas.size());
        Model.Agenda a = agendaOf(ag);
        int way = below(model.ways.size()), judge = below(a.bench.size()), question = below(a.questions);
        int[] told = told(a);
        int n = below(6), what = below(2);
        switch (NAMES[op]) {
            case "feed": if (random.nextInt(8) == 0) call(op, few(-1, 6), random.nextInt(), 0, 0, 0, 0); break;
            case "agenda": if (random.nextInt(8) == 0) call(op, 0, 0, 0, 0, 0, 0); break;
            case "of": call(op, ag, below(6), 0, 0, 0, 0); break;
            case "lawful": call(op, ag, below(a.lawful.size()), 0, 0, 0, 0); break;
            case "broken": case "far": call(op, ag, below(1 << a.questions), 0, 0, 0, 0); break;
            case "stands": case "why": call(op, ag, told[0], told[1], 0, 0, 0); break;
            case "forced": call(op, ag, told[0], told[1], question, 0, 0); break;
            case "judge": call(op, ag, below(10), told[0], told[1], 0, 0); break;
            case "change": call(op, ag, judge, told[0], told[1], 0, 0); break;
            case "read": call(op, ag, judge, below(3), random.nextInt(3) > 0 ? few(-1, 6) : below(61), 0, 0); break;
            case "clear": if (random.nextInt(2) == 0) call(op, ag, 0, 0, 0, 0, 0); break;
            case "ofJudge": call(op, ag, judge, below(3), 0, 0, 0); break;
            case "votes": case "orders": call(op, ag, question, what, 0, 0, 0); break;
            case "nearest": call(op, ag, few(-2, 4), 0, 0, 0, 0); break;
            case "way": call(op, below(8), below(10), random.nextInt(3) > 0 ? random.nextInt(5) : below(9), 0, 0, 0); break;
            case "ofWay": call(op, way, below(3), 0, 0, 0, 0); break;
            case "outcome": call(op, way, ag, below(5), 0, 0, 0); break;
            case "benches": call(op, ag, n, 0, 0, 0, 0); break;
            case "unlawful": call(op, way, ag, n, what, 0, 0); break;
            case "unlike": call(op, way, below(model.ways.size()), ag, n, what, 0); break;
            case "sway": call(op, way, ag, n, question, 0, 0); break;
            case "twist": call(op, way, ag, judge, 0, 0, 0); break;
            case "twisted": if (n < 5 || a.lawful.size() < 9 || random.nextInt(20) == 0) call(op, way, ag, n, 0, 0, 0); break;
            case "breach": call(op, way, ag, below(4), below(5), 0, 0); break;
            case "keeper": call(op, ag, below(4), random.nextBoolean() ? 1 << random.nextInt(5) : below(32), 0, 0, 0); break;
            case "mend": if (n < 5 || a.ties.size() < 5 || random.nextInt(10) == 0) call(op, ag, n, below(3), 0, 0, 0); break;
            case "act": call(op, way, below(4), random.nextBoolean() ? few(-20, 20) : random.nextInt(), 0, 0, 0); break;
            case "trace": call(op, below(random.nextInt(3) == 0 ? 26 : 9), 0, 0, 0, 0, 0); break;
            case "keep": call(op, below(4), below(model.ways.size()), 0, 0, 0, 0); break;
            case "row": call(op, below(4), random.nextBoolean() ? 4 : below(5), random.nextBoolean() ? few(0, 8) : few(-2, 62), 0, 0, 0); break;
            case "put": case "element": call(op, below(4), random.nextInt(3) > 0 ? few(0, 6) : below(60), 0, 0, 0, drawLong()); break;
            case "shift": call(op, below(4), few(-1, 5), below(4), few(-1, 5), few(-1, 5) | (random.nextInt(30) == 0 ? Integer.MAX_VALUE : 0), 0); break;
            case "taken": call(op, below(6), below(8), 0, 0, 0, 0); break;
            default: call(op, below(5), 0, 0, 0, 0, 0);
        }
    }

    private long drawLong() {
        switch (random.nextInt(4)) {
            case 0: return 0;
            case 1: return 256L << random.nextInt(50);
            case 2: return random.nextInt(5) - 2;
            default: return random.nextLong();
        }
    }

    private void call(int op, int a, int b, int c, int d, int e, long v) {
        if (wrong) return;
        long got = answer(real, op, a, b, c, d, e, v), due = answer(model, op, a, b, c, d, e, v);
        log.add(NAMES[op] + " " + a + " " + b + " " + c + " " + d + " " + e + " " + v + ": " + got + (got == due ? "" : ", the model: " + due));
        if (got != due) wrong = true;
    }

    private static long answer(DoorBench x, int op, int a, int b, int c, int d, int e, long v) {
        switch (NAMES[op]) {
            case "feed": return x.feed(a, b);
            case "agenda": return x.agenda();
            case "of": return x.of(a, b);
            case "lawful": return x.lawful(a, b);
            case "broken": return x.broken(a, b);
            case "stands": return x.stands(a, b, c);
            case "forced": return x.forced(a, b, c, d);
            case "why": return x.why(a, b, c);
            case "judge": return x.judge(a, b, c, d);
            case "change": return x.change(a, b, c, d);
            case "read": return x.read(a, b, c, d);
            case "clear": return x.clear(a);
            case "ofJudge": return x.ofJudge(a, b, c);
            case "votes": return x.votes(a, b, c);
            case "far": return x.far(a, b);
            case "nearest": return x.nearest(a, b);
            case "way": return x.way(a, b, c);
            case "ofWay": return x.ofWay(a, b);
            case "outcome": return x.outcome(a, b, c);
            case "benches": return x.benches(a, b);
            case "unlawful": return x.unlawful(a, b, c, d);
            case "unlike": return x.unlike(a, b, c, d, e);
            case "sway": return x.sway(a, b, c, d);
            case "twist": return x.twist(a, b, c);
            case "twisted": return x.twisted(a, b, c);
            case "breach": return x.breach(a, b, c, d);
            case "keeper": return x.keeper(a, b, c);
            case "mend": return x.mend(a, b, c);
            case "orders": return x.orders(a, b, c);
            case "act": return x.act(a, b, c);
            case "trace": return x.trace(a);
            case "keep": return x.keep(a, b);
            case "row": return x.row(a, b, c);
            case "put": return x.put(a, b, v);
            case "element": return x.element(a, b);
            case "shift": return x.shift(a, b, c, d, e);
            case "taken": return x.taken(a, b);
            case "count": return x.count(a);
            default: throw new IllegalStateException();
        }
    }

    private static long answer(Model x, int op, int a, int b, int c, int d, int e, long v) {
        switch (NAMES[op]) {
            case "feed": return x.feed(a, b);
            case "agenda": return x.agenda();
            case "of": return x.of(a, b);
            case "lawful": return x.lawful(a, b);
            case "broken": return x.broken(a, b);
            case "stands": return x.stands(a, b, c);
            case "forced": return x.forced(a, b, c, d);
            case "why": return x.why(a, b, c);
            case "judge": return x.judge(a, b, c, d);
            case "change": return x.change(a, b, c, d);
            case "read": return x.read(a, b, c, d);
            case "clear": return x.clear(a);
            case "ofJudge": return x.ofJudge(a, b, c);
            case "votes": return x.votes(a, b, c);
            case "far": return x.far(a, b);
            case "nearest": return x.nearest(a, b);
            case "way": return x.way(a, b, c);
            case "ofWay": return x.ofWay(a, b);
            case "outcome": return x.outcome(a, b, c);
            case "benches": return x.benches(a, b);
            case "unlawful": return x.unlawful(a, b, c, d);
            case "unlike": return x.unlike(a, b, c, d, e);
            case "sway": return x.sway(a, b, c, d);
            case "twist": return x.twist(a, b, c);
            case "twisted": return x.twisted(a, b, c);
            case "breach": return x.breach(a, b, c, d);
            case "keeper": return x.keeper(a, b, c);
            case "mend": return x.mend(a, b, c);
            case "orders": return x.orders(a, b, c);
            case "act": return x.act(a, b, c);
            case "trace": return x.trace(a);
            case "keep": return x.keep(a, b);
            case "row": return x.row(a, b, c);
            case "put": return x.put(a, b, v);
            case "element": return x.element(a, b);
            case "shift": return x.shift(a, b, c, d, e);
            case "taken": return x.taken(a, b);
            case "count": return x.count(a);
            default: throw new IllegalStateException();
        }
    }
}
