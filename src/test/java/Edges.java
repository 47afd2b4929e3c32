import java.util.ArrayList;
import java.util.HashMap;
import java.util.List;
import java.util.Map;

/**
 * What the tests of the document's edges share: objects to begin with, and checks of two sorts:
 * an answer is due, or a call is refused and nothing that can be seen has changed behind it.
 * No object here is used for more than 512 calls.
 */
final class Edges {
    static final int BAD = -1, NOT = -2, FULL = -3, BIG = -4;
    static final int NOTHING_THERE = -11, OTHER_KIND = -12, NO_PLACE = -13, NO_SIZE = -14;
    static final int LEAST = Integer.MIN_VALUE, MOST = Integer.MAX_VALUE;

    /** Lawful: 0, 1, 2, 7. */
    static final String AND = "q abc;p ab;e c;t c=a&b";
    /** So many lawful sets. */
    static final String SIX = "q abc;t 1{a,b,c};t !(a&b&c)", SEVEN = "q abc;t a|b|c";
    static final String TWELVE = "q abcd;t 1{a,b,c};t !(a&b&c)", THIRTEEN = "q abcd;t 1{a,b,c,d};t !3{a,b,c}";

    interface Call {
        long on(DoorBench x);
    }

    /** A call with one of its arguments left open. */
    interface Argument {
        long on(DoorBench x, int v);
    }

    interface Rig {
        DoorBench make();
    }

    static final Rig EMPTY = DoorBench::new, USUAL = Edges::usual, FILLED = Edges::filled;

    private static final Map<Rig, List<Long>> SEEN = new HashMap<>();
    private static String sentence = "";
    private static int wrong, checks;

    private Edges() {
    }

    /** The document's words that the next checks are for. */
    static void says(String words) {
        sentence = words;
    }

    static void due(String call, long want, long got) {
        checks++;
        if (want == got) return;
        wrong++;
        System.out.println("\"" + sentence + "\": " + call + " answered " + got + ", due is " + want);
    }

    /** On a new object of the rig the call answers so. */
    static void due(String call, long want, Rig rig, Call c) {
        due(call, want, c.on(rig.make()));
    }

    /** On a new object of the rig the call answers so, and everything is as if it had not been called. */
    static void refused(String call, long want, Rig rig, Call c) {
        DoorBench x = rig.make();
        due(call, want, c.on(x));
        List<Long> before = SEEN.computeIfAbsent(rig, r -> seen(r.make()));
        List<Long> behind = seen(x);
        checks++;
        if (before.equals(behind)) return;
        wrong++;
        System.out.println("\"" + sentence + "\": " + call + " changed something: " + before + " became " + behind);
    }

    static void bad(String call, Rig rig, Call c) {
        refused(call, BAD, rig, c);
    }

    /** An argument may be low .. high: the next values on either side and the ends of int are BAD. */
    static void outside(String call, int low, int high, Rig rig, Argument a) {
        for (int v : new int[] {low - 1, high + 1, LEAST, MOST}) bad(call + " with " + v, rig, x -> a.on(x, v));
    }

    /** An argument may be low .. high: the first and the last value are taken, and answered so. */
    static void inside(String call, int low, long wantLow, int high, long wantHigh, Rig rig, Argument a) {
        due(call + " with " + low, wantLow, a.on(rig.make(), low));
        due(call + " with " + high, wantHigh, a.on(rig.make(), high));
    }

    static void end(String what) {
        System.out.println(wrong == 0 ? what + ": " + checks + " checks as due" : wrong + " of " + checks + " checks are not as due");
        if (wrong != 0) System.exit(1);
    }

    // ---- objects to begin with

    static void write(DoorBench x, String text) {
        for (int i = 0; i < text.length(); i += 4) {
            int n = Math.min(4, text.length() - i), v = 0;
            for (int k = 0; k < n; k++) v |= text.charAt(i + k) << 8 * k;
            x.feed(n, v);
        }
    }

    static int tell(DoorBench x, String text) {
        write(x, text);
        return x.agenda();
    }

    static DoorBench with(String... texts) {
        DoorBench x = new DoorBench();
        for (int i = 0; i < texts.length; i++) due("agenda " + texts[i], i, tell(x, texts[i]));
        return x;
    }

    static void dueAgenda(String text, int want) {
        due("agenda " + text, want, tell(new DoorBench(), text));
    }

    /** Ways 0 .. 7 of the kinds 0 .. 7, with this shift and this judge. */
    static void allKinds(DoorBench x, int s, int c) {
        for (int kind = 0; kind < 8; kind++) due("way " + kind, kind, x.way(kind, s, c));
    }

    static String repeat(String text, int times) {
        StringBuilder all = new StringBuilder();
        for (int i = 0; i < times; i++) all.append(text);
        return all.toString();
    }

    /**
     * Agendas 0 AND (with four judges, the last one silent on b and c), 1 TWELVE (with a judge),
     * 2 THIRTEEN, 3 SIX, 4 SEVEN, 5 of seven free questions; ways 0 .. 7 of the kinds 0 .. 7 with
     * shift 1 and judge 1; shelves: 0 five longs, 1 four booleans, 2 way 6, 3 nothing, 4 no bytes,
     * 5 three ints; an agenda on the tape; a trace of eight bodies.
     */
    private static DoorBench usual() {
        DoorBench x = new DoorBench();
        for (String text : new String[] {AND, TWELVE, THIRTEEN, SIX, SEVEN, "q abcdefg"}) tell(x, text);
        x.judge(0, 1, 7, 0);
        x.judge(0, 2, 1, 6);
        x.judge(0, 3, 2, 5);
        x.judge(0, 1, 1, 0);
        x.judge(1, 9, 9, 0);
        for (int kind = 0; kind < 8; kind++) x.way(kind, 1, 1);
        x.row(0, 3, 5);
        for (int i = 0; i < 5; i++) x.put(0, i, 10 + i);
        x.row(1, 4, 4);
        x.put(1, 0, 1);
        x.put(1, 2, 1);
        x.keep(2, 6);
        x.row(4, 0, 0);
        x.row(5, 2, 3);
        x.put(5, 2, -1);
        write(x, "q ba;t a|!b");
        x.act(6, 3, 9);
        return x;
    }

    /**
     * All that can be full is: eight agendas (the last one AND, the others q a), nine judges of
     * the last one, twenty ways (the last one a leader), six rows of sixty, 160 bytes.
     */
    private static DoorBench filled() {
        DoorBench x = new DoorBench();
        for (int i = 0; i < 7; i++) tell(x, "q a");
        tell(x, AND);
        for (int j = 0; j < 9; j++) x.judge(7, j + 1, j % 2 == 0 ? 1 : 2, 0);
        for (int w = 0; w < 20; w++) x.way(w % 8, 9, 8);
        for (int shelf = 0; shelf < 6; shelf++) {
            x.row(shelf, shelf % 5, 60);
            x.put(shelf, 0, 1);
            x.put(shelf, 59, 1);
        }
        for (int i = 0; i < 40; i++) x.feed(4, ' ');
        x.act(6, 3, 9);
        return x;
    }

    // ---- what can be seen of an object

    /** Everything that a run could still tell of an object; the tape last, which it empties. */
    private static List<Long> seen(DoorBench x) {
        List<Long> all = new ArrayList<>();
        for (int what = 0; what < 5; what++) all.add((long) x.count(what));
        for (int a = 0; a < x.count(0); a++) seeAgenda(x, a, all);
        for (int w = 0; w < x.count(1); w++) {
            for (int what = 0; what < 3; what++) all.add((long) x.ofWay(w, what));
        }
        for (int i = 0; i < 9; i++) all.add((long) x.trace(i));
        for (int shelf = 0; shelf < 6; shelf++) seeShelf(x, shelf, all);
        all.add((long) x.agenda());
        int last = x.count(0) - 1;
        all.add((long) x.of(last, 0));
        all.add((long) x.of(last, 4));
        all.add((long) x.broken(last, 1));
        all.add((long) x.broken(last, 2));
        all.add((long) x.count(2));
        return all;
    }

    private static void seeAgenda(DoorBench x, int a, List<Long> all) {
        for (int what = 0; what < 6; what++) all.add((long) x.of(a, what));
        all.add((long) x.lawful(a, x.of(a, 4) - 1));
        for (int j = 0; j < x.of(a, 5); j++) {
            for (int what = 0; what < 3; what++) all.add((long) x.ofJudge(a, j, what));
        }
        if (x.of(a, 5) == 0) return;
        // What is kept of the judges beside themselves would show in these.
        for (int what = 0; what < 2; what++) all.add((long) x.votes(a, 0, what));
        all.add((long) x.nearest(a, 0));
        for (int what = 0; what < 2; what++) all.add((long) x.outcome(1, a, what));
    }

    private static void seeShelf(DoorBench x, int shelf, List<Long> all) {
        all.add((long) x.taken(shelf, 0));
        for (int i : new int[] {0, 1, 2, 3, 4, 5, 59, 60}) all.add(x.element(shelf, i));
        // Each sort of row keeps something else of this.
        all.add((long) x.put(shelf, 0, 0x7edcba9876543210L));
        all.add(x.element(shelf, 0));
    }
}
