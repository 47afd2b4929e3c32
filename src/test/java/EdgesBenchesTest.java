/** The edges that the document names, promises 10 to 20: benches, ways and outcomes. */
public final class EdgesBenchesTest {
    private static final String TEN = "q abcdefghij";

    public static void main(String[] args) {
        judge();
        nineJudges();
        change();
        read();
        readWhereTheRowEnds();
        readManyAnswers();
        clear();
        ofJudge();
        votes();
        far();
        nearest();
        way();
        twentyWays();
        ofWay();
        outcome();
        byHeads();
        byPremises();
        byEnds();
        near();
        inTurns();
        chair();
        leader();
        breaks();
        Edges.end("edges of benches and ways");
    }

    // ---- 10 to 13

    private static void judge() {
        Edges.says("3: a WEIGHT (1 .. 9); 10: BAD (WEIGHT, answers)");
        Edges.inside("judge of weight", 1, 4, 9, 4, Edges.USUAL, (x, w) -> x.judge(0, w, 0, 0));
        Edges.outside("judge of weight", 1, 9, Edges.USUAL, (x, w) -> x.judge(0, w, 0, 0));
        Edges.inside("judge of agenda", 0, 4, 5, 0, Edges.USUAL, (x, a) -> x.judge(a, 1, 0, 0));
        Edges.outside("judge of agenda", 0, 5, Edges.USUAL, (x, a) -> x.judge(a, 1, 0, 0));
        Edges.due("weight 9 is kept", 9, Edges.USUAL, x -> x.ofJudge(0, x.judge(0, 9, 0, 0), 0));
        Edges.due("weight 1 is kept", 1, Edges.USUAL, x -> x.ofJudge(0, x.judge(0, 1, 0, 0), 0));
        Edges.says("3: SILENT on the others");
        Edges.due("silent on all", 0, Edges.USUAL, x -> x.ofJudge(0, x.judge(0, 1, 0, 0), 1));
        Edges.due("silent on all", 0, Edges.USUAL, x -> x.ofJudge(0, x.judge(0, 1, 0, 0), 2));
        Edges.due("silent on none: yes", 127, Edges.USUAL, x -> x.ofJudge(5, x.judge(5, 1, 127, 0), 1));
        Edges.due("silent on none: no", 127, Edges.USUAL, x -> x.ofJudge(5, x.judge(5, 1, 0, 127), 2));
        Edges.says("3: what it answers must be able to stand; 10: NOT: they CAN'T STAND");
        Edges.refused("judge that can't", Edges.NOT, Edges.USUAL, x -> x.judge(0, 1, 3, 4));
        Edges.refused("judge that can't, two answers", Edges.NOT, Edges.USUAL, x -> x.judge(0, 9, 4, 1));
        Edges.says("10: BAD; NOT; FULL: of several the one named first");
        Edges.outside("judge that can't, of weight", 1, 9, Edges.USUAL, (x, w) -> x.judge(0, w, 3, 4));
        Edges.refused("a tenth judge", Edges.FULL, Edges.FILLED, x -> x.judge(7, 1, 0, 0));
        Edges.refused("a tenth judge that can't", Edges.NOT, Edges.FILLED, x -> x.judge(7, 1, 3, 4));
        Edges.outside("a tenth judge of weight", 1, 9, Edges.FILLED, (x, w) -> x.judge(7, w, 3, 4));
        Edges.bad("a tenth judge, one answer both", Edges.FILLED, x -> x.judge(7, 1, 1, 1));
        Edges.bad("a tenth judge, an answer too high", Edges.FILLED, x -> x.judge(7, 1, 8, 0));
        Edges.due("another bench isn't full", 0, Edges.FILLED, x -> x.judge(6, 1, 0, 0));
    }

    private static void nineJudges() {
        Edges.says("3: JUDGES 0 .. 8, as they come; 10: its number; FULL");
        DoorBench x = Edges.with(Edges.AND, Edges.AND);
        for (int j = 0; j < 9; j++) {
            Edges.due("judge", j, x.judge(1, j + 1, 0, 1));
            Edges.due("judges", j + 1, x.of(1, 5));
        }
        Edges.due("the tenth", Edges.FULL, x.judge(1, 1, 0, 0));
        Edges.due("judges", 9, x.of(1, 5));
        Edges.due("judges of all", 9, x.count(3));
        Edges.due("weight of 8", 9, x.ofJudge(1, 8, 0));
        Edges.due("against a", 45, x.votes(1, 0, 1));
        Edges.due("the other bench", 0, x.judge(0, 1, 0, 0));
        for (int a = 2; a < 8; a++) Edges.due("q a", a, Edges.tell(x, "q a"));
        for (int a = 2; a < 8; a++) for (int j = 0; j < 9; j++) x.judge(a, 9, 1, 0);
        for (int j = 1; j < 9; j++) x.judge(0, 9, 0, 0);
        Edges.due("nine judges of all eight", 72, x.count(3));
    }

    private static void change() {
        Edges.says("11: A JUDGE's answers become these: 1. BAD; NOT.");
        Edges.inside("change judge", 0, 1, 3, 1, Edges.USUAL, (x, j) -> x.change(0, j, 0, 0));
        Edges.outside("change judge", 0, 3, Edges.USUAL, (x, j) -> x.change(0, j, 0, 0));
        Edges.outside("change judge to what can't stand", 0, 3, Edges.USUAL, (x, j) -> x.change(0, j, 3, 4));
        Edges.outside("change judge of the full bench", 0, 8, Edges.FILLED, (x, j) -> x.change(7, j, 0, 0));
        Edges.inside("change judge of the full bench", 0, 1, 8, 1, Edges.FILLED, (x, j) -> x.change(7, j, 0, 7));
        Edges.bad("change of a bench without judges", Edges.USUAL, x -> x.change(2, 0, 0, 0));
        Edges.outside("change of agenda", 0, 1, Edges.USUAL, (x, a) -> x.change(a, 0, 0, 0));
        Edges.refused("change to what can't stand", Edges.NOT, Edges.USUAL, x -> x.change(0, 0, 3, 4));
        Edges.refused("change to what it has", 1, Edges.USUAL, x -> x.change(0, 1, 1, 6));
        Edges.says("3: A JUDGE's answers can be told anew.");
        DoorBench x = Edges.with("q a");
        x.judge(0, 9, 1, 0);
        x.judge(0, 1, 1, 0);
        Edges.due("from yes to no", 1, x.change(0, 0, 0, 1));
        Edges.due("for", 1, x.votes(0, 0, 0));
        Edges.due("against", 9, x.votes(0, 0, 1));
        Edges.due("to silence", 1, x.change(0, 0, 0, 0));
        Edges.due("against", 0, x.votes(0, 0, 1));
        Edges.due("weight stays", 9, x.ofJudge(0, 0, 0));
        Edges.due("judges stay", 2, x.of(0, 5));
    }

    private static void read() {
        Edges.says("12: BAD, -12 (no ROW of booleans; a SHELF that holds nothing is missing); NOT");
        Edges.outside("read of agenda", 0, 1, Edges.USUAL, (x, a) -> x.read(a, 0, 1, 1));
        Edges.outside("read of judge", 0, 3, Edges.USUAL, (x, j) -> x.read(0, j, 1, 1));
        Edges.outside("read from shelf", 0, 5, Edges.USUAL, (x, s) -> x.read(0, 0, s, 0));
        Edges.outside("read of judge from a way", 0, 3, Edges.USUAL, (x, j) -> x.read(0, j, 2, 0));
        Edges.outside("read of judge from nothing", 0, 3, Edges.USUAL, (x, j) -> x.read(0, j, 3, 0));
        Edges.inside("read of judge", 0, 3, 3, 3, Edges.USUAL, (x, j) -> x.read(0, j, 1, 1));
        for (int i : new int[] {-1, 0, 60, Edges.LEAST, Edges.MOST}) {
            Edges.refused("read from longs", Edges.OTHER_KIND, Edges.USUAL, x -> x.read(0, 0, 0, i));
            Edges.refused("read from a way", Edges.OTHER_KIND, Edges.USUAL, x -> x.read(0, 0, 2, i));
            Edges.refused("read from no bytes", Edges.OTHER_KIND, Edges.USUAL, x -> x.read(0, 0, 4, i));
            Edges.refused("read from ints", Edges.OTHER_KIND, Edges.USUAL, x -> x.read(0, 0, 5, i));
            Edges.due("read from nothing", 0, Edges.USUAL, x -> x.read(0, 0, 3, i));
            Edges.due("read from nothing: silent", 0, Edges.USUAL, x -> {
                x.read(0, 0, 3, i);
                return x.ofJudge(0, 0, 1) + x.ofJudge(0, 0, 2);
            });
        }
        Edges.refused("read from shorts", Edges.OTHER_KIND, Edges.FILLED, x -> x.read(7, 0, 1, 0));
        // Yes, no, yes: c without b.
        Edges.refused("read what can't stand", Edges.NOT, Edges.USUAL, x -> x.read(0, 0, 1, 0));
    }

    /** What a judge of AND has read from the four booleans of the usual shelf: yes, no, yes, no. */
    private static void dueRead(int i, int many, int yes, int no) {
        DoorBench x = Edges.USUAL.make();
        Edges.due("read from " + i, many, x.read(0, 2, 1, i));
        Edges.due("yes from " + i, yes, x.ofJudge(0, 2, 1));
        Edges.due("no from " + i, no, x.ofJudge(0, 2, 2));
        Edges.due("weight", 3, x.ofJudge(0, 2, 0));
        Edges.due("the row stays", 1, x.element(1, 2));
    }

    private static void readWhereTheRowEnds() {
        Edges.says("6: where the row is missing or ends: SILENT on what is behind");
        dueRead(1, 3, 2, 5);
        dueRead(2, 2, 1, 2);
        dueRead(3, 1, 0, 1);
        dueRead(4, 0, 0, 0);
        dueRead(5, 0, 0, 0);
        dueRead(-1, 0, 0, 0);
        dueRead(-3, 0, 0, 0);
        dueRead(Edges.LEAST, 0, 0, 0);
        dueRead(Edges.MOST, 0, 0, 0);
        dueRead(Edges.MOST - 1, 0, 0, 0);
        // Sixty booleans, the first and the last of them true.
        Edges.due("read from 57", Edges.NOT, Edges.FILLED, x -> x.read(7, 0, 4, 57));
        Edges.due("read from 58", 2, Edges.FILLED, x -> x.read(7, 0, 4, 58));
        Edges.due("read from 59", 1, Edges.FILLED, x -> x.read(7, 0, 4, 59));
        Edges.due("read from 60", 0, Edges.FILLED, x -> x.read(7, 0, 4, 60));
        Edges.due("read the last one", 1, Edges.FILLED, x -> {
            x.read(7, 0, 4, 59);
            return x.ofJudge(7, 0, 1);
        });
        Edges.due("a row of none", 0, Edges.USUAL, x -> {
            x.row(1, 4, 0);
            return x.read(0, 0, 1, 0);
        });
    }

    private static void readManyAnswers() {
        Edges.says("12: those FROM A ROW on a SHELF, from place i on: how many it answers");
        DoorBench x = Edges.with(TEN + ";t a|j");
        x.judge(0, 5, 1, 0);
        x.row(5, 4, 12);
        for (int i = 0; i < 12; i++) x.put(5, i, i % 3 == 0 ? 0 : Long.MIN_VALUE);
        // Places 1 .. 10 are for the ten questions: 3, 6 and 9 are false.
        Edges.due("ten", 10, x.read(0, 0, 5, 1));
        Edges.due("yes", 1023 & ~(4 + 32 + 256), x.ofJudge(0, 0, 1));
        Edges.due("no", 4 + 32 + 256, x.ofJudge(0, 0, 2));
        Edges.due("just ten", 10, x.read(0, 0, 5, 2));
        Edges.due("yes", 1023 & ~(2 + 16 + 128), x.ofJudge(0, 0, 1));
        Edges.due("nine", 9, x.read(0, 0, 5, 3));
        Edges.due("yes", 511 & ~(1 + 8 + 64), x.ofJudge(0, 0, 1));
        Edges.due("no", 1 + 8 + 64, x.ofJudge(0, 0, 2));
        // From 0 on a and j are both false.
        Edges.due("ten that can't stand", Edges.NOT, x.read(0, 0, 5, 0));
        Edges.due("no stays", 1 + 8 + 64, x.ofJudge(0, 0, 2));
        Edges.due("for b", 5, x.votes(0, 1, 0));
        Edges.due("for j", 0, x.votes(0, 9, 0));
    }

    private static void clear() {
        Edges.says("13: All JUDGES of an AGENDA go: how many there were. BAD.");
        Edges.inside("clear", 0, 4, 5, 0, Edges.USUAL, (x, a) -> x.clear(a));
        Edges.outside("clear", 0, 5, Edges.USUAL, (x, a) -> x.clear(a));
        Edges.outside("clear", 0, 7, Edges.FILLED, (x, a) -> x.clear(a));
        Edges.refused("clear an empty bench", 0, Edges.USUAL, x -> x.clear(2));
        DoorBench x = Edges.FILLED.make();
        Edges.due("clear nine", 9, x.clear(7));
        Edges.due("clear none", 0, x.clear(7));
        Edges.due("judges", 0, x.of(7, 5));
        Edges.due("judge 0", Edges.BAD, x.ofJudge(7, 0, 0));
        Edges.due("for", 0, x.votes(7, 0, 0));
        Edges.due("far", 0, x.far(7, 7));
        Edges.due("heads", 7, x.outcome(1, 7, 2));
        Edges.due("all are near", 4, x.nearest(7, -1));
        Edges.due("a new judge", 0, x.judge(7, 2, 1, 0));
        Edges.due("for", 2, x.votes(7, 0, 0));
        Edges.due("heads", 1, x.outcome(1, 7, 0));
        Edges.due("judges of another agenda stay", 1, Edges.USUAL, y -> {
            y.clear(0);
            return y.of(1, 5);
        });
    }

    // ---- 14 to 17

    private static void ofJudge() {
        Edges.says("14: Of a JUDGE: 0 WEIGHT, 1 yes, 2 no. BAD.");
        Edges.inside("ofJudge 0, 1", 0, 2, 2, 6, Edges.USUAL, (x, what) -> x.ofJudge(0, 1, what));
        Edges.inside("ofJudge 0, j, 0", 0, 1, 3, 1, Edges.USUAL, (x, j) -> x.ofJudge(0, j, 0));
        Edges.inside("ofJudge 7, j, 0", 0, 1, 8, 9, Edges.FILLED, (x, j) -> x.ofJudge(7, j, 0));
        Edges.outside("ofJudge what", 0, 2, Edges.USUAL, (x, what) -> x.ofJudge(0, 1, what));
        Edges.outside("ofJudge judge", 0, 3, Edges.USUAL, (x, j) -> x.ofJudge(0, j, 0));
        Edges.outside("ofJudge judge", 0, 8, Edges.FILLED, (x, j) -> x.ofJudge(7, j, 0));
        Edges.outside("ofJudge agenda", 0, 1, Edges.USUAL, (x, a) -> x.ofJudge(a, 0, 0));
        Edges.bad("ofJudge of nobody", Edges.USUAL, x -> x.ofJudge(5, 0, 0));
    }

    private static DoorBench nine(String text, int yes, int no) {
        DoorBench x = new DoorBench();
        Edges.tell(x, text);
        for (int j = 0; j < 9; j++) x.judge(0, 9, yes, no);
        return x;
    }

    private static void votes() {
        Edges.says("15: FOR (what 0), AGAINST (1) a QUESTION. BAD.");
        Edges.inside("votes 0, 2", 0, 1, 1, 5, Edges.USUAL, (x, what) -> x.votes(0, 2, what));
        Edges.inside("votes 0, q, 0", 0, 4, 2, 1, Edges.USUAL, (x, q) -> x.votes(0, q, 0));
        Edges.outside("votes what", 0, 1, Edges.USUAL, (x, what) -> x.votes(0, 0, what));
        Edges.outside("votes question", 0, 2, Edges.USUAL, (x, q) -> x.votes(0, q, 0));
        Edges.outside("votes question", 0, 6, Edges.USUAL, (x, q) -> x.votes(5, q, 0));
        Edges.outside("votes agenda", 0, 5, Edges.USUAL, (x, a) -> x.votes(a, 0, 0));
        Edges.due("of nobody", 0, Edges.USUAL, x -> x.votes(5, 0, 0));
        Edges.says("3: FOR and AGAINST a QUESTION: sums of WEIGHTS");
        Edges.due("nine times nine for j", 81, nine(TEN, 1023, 0).votes(0, 9, 0));
        Edges.due("none against j", 0, nine(TEN, 1023, 0).votes(0, 9, 1));
        Edges.due("nine times nine against j", 81, nine(TEN, 0, 1023).votes(0, 9, 1));
        Edges.due("nobody for j", 0, nine(TEN, 511, 0).votes(0, 9, 0) + nine(TEN, 511, 0).votes(0, 9, 1));
    }

    private static void far() {
        Edges.says("16: FAR of a SET. BAD.");
        Edges.inside("far 0", 0, 9, 7, 10, Edges.USUAL, (x, set) -> x.far(0, set));
        Edges.outside("far 0", 0, 7, Edges.USUAL, (x, set) -> x.far(0, set));
        Edges.outside("far 5", 0, 127, Edges.USUAL, (x, set) -> x.far(5, set));
        Edges.outside("far of agenda", 0, 5, Edges.USUAL, (x, a) -> x.far(a, 0));
        Edges.says("3: the sum over JUDGES of WEIGHT times how many of its answers are unlike the SET's");
        Edges.due("all unlike", 810, nine(TEN, 1023, 0).far(0, 0));
        Edges.due("all like", 0, nine(TEN, 1023, 0).far(0, 1023));
        Edges.due("all unlike", 810, nine(TEN, 0, 1023).far(0, 1023));
        Edges.due("silent ones aren't unlike", 0, nine(TEN, 0, 0).far(0, 1023));
        Edges.due("of nobody", 0, Edges.USUAL, x -> x.far(5, 127));
        Edges.due("a set that isn't lawful", 2 + 2 * 2 + 3 * 2 + 1, Edges.USUAL, x -> x.far(0, 4));
    }

    private static void nearest() {
        Edges.says("17: The i-th LAWFUL SET with the least FAR; how many such (i -1). BAD.");
        // Far: 0 has 3 + 2 + 3 + 1, 1 has 2 + 0 + 6 + 0, 2 has 2 + 4 + 0 + 1, 7 has 0 + 4 + 6 + 0.
        Edges.due("one is nearest", 1, Edges.USUAL, x -> x.nearest(0, -1));
        Edges.due("it is 2", 2, Edges.USUAL, x -> x.nearest(0, 0));
        Edges.outside("nearest", -1, 0, Edges.USUAL, (x, i) -> x.nearest(0, i));
        Edges.inside("nearest of nobody", -1, 128, 127, 127, Edges.USUAL, (x, i) -> x.nearest(5, i));
        Edges.outside("nearest of nobody", -1, 127, Edges.USUAL, (x, i) -> x.nearest(5, i));
        Edges.outside("nearest of agenda", 0, 5, Edges.USUAL, (x, a) -> x.nearest(a, -1));
        DoorBench x = Edges.with(TEN, "q a;t a");
        Edges.due("all 1024", 1024, x.nearest(0, -1));
        Edges.due("the first", 0, x.nearest(0, 0));
        Edges.due("the last", 1023, x.nearest(0, 1023));
        Edges.due("behind the last", Edges.BAD, x.nearest(0, 1024));
        Edges.due("the only one", 1, x.nearest(1, -1));
        Edges.due("the only one", 1, x.nearest(1, 0));
        Edges.due("behind the only one", Edges.BAD, x.nearest(1, 1));
        Edges.due("one of nine judges", 1, nine(TEN, 1023, 0).nearest(0, -1));
        Edges.due("it is all yes", 1023, nine(TEN, 1023, 0).nearest(0, 0));
        Edges.due("two, if all are silent on j", 2, nine(TEN, 511, 0).nearest(0, -1));
        Edges.due("the second", 1023, nine(TEN, 511, 0).nearest(0, 1));
        Edges.due("the third", Edges.BAD, nine(TEN, 511, 0).nearest(0, 2));
    }

    // ---- 18 and 19

    private static void way() {
        Edges.says("18: A WAY of a KIND (0 .. 7)");
        Edges.inside("way", 0, 8, 7, 8, Edges.USUAL, (x, k) -> x.way(k, 0, 0));
        Edges.outside("way", 0, 7, Edges.USUAL, (x, k) -> x.way(k, 0, 0));
        Edges.says("18: with a shift s (0 .. 9; of 5, 6) and a JUDGE c (0 .. 8; of 6, 7), else these don't matter");
        for (int kind = 0; kind < 8; kind++) {
            int k = kind;
            boolean shifts = k == 5 || k == 6, watches = k == 6 || k == 7;
            Edges.inside("shift of " + k, 0, 8, 9, 8, Edges.USUAL, (x, s) -> x.way(k, s, 0));
            Edges.inside("judge of " + k, 0, 8, 8, 8, Edges.USUAL, (x, c) -> x.way(k, 0, c));
            Edges.inside("kept shift of " + k, 0, 0, 9, shifts ? 9 : 0, Edges.USUAL, (x, s) -> x.ofWay(x.way(k, s, 8), 1));
            Edges.inside("kept judge of " + k, 0, 0, 8, watches ? 8 : 0, Edges.USUAL, (x, c) -> x.ofWay(x.way(k, 9, c), 2));
            for (int v : new int[] {-1, 9, 10, Edges.LEAST, Edges.MOST}) {
                if (!shifts) Edges.due("any shift of " + k, 0, Edges.USUAL, x -> x.ofWay(x.way(k, v, 3), 1));
                if (!watches) Edges.due("any judge of " + k, 0, Edges.USUAL, x -> x.ofWay(x.way(k, 3, v), 2));
            }
            if (shifts) Edges.outside("shift of " + k, 0, 9, Edges.USUAL, (x, s) -> x.way(k, s, 0));
            if (watches) Edges.outside("judge of " + k, 0, 8, Edges.USUAL, (x, c) -> x.way(k, 0, c));
        }
        Edges.says("18: BAD, FULL: of several the one named first");
        for (int kind = 0; kind < 8; kind++) {
            int k = kind;
            Edges.refused("one more of " + k, Edges.FULL, Edges.FILLED, x -> x.way(k, 9, 8));
        }
        Edges.outside("one more", 0, 7, Edges.FILLED, (x, k) -> x.way(k, 0, 0));
        Edges.outside("one more, shift", 0, 9, Edges.FILLED, (x, s) -> x.way(5, s, 0));
        Edges.outside("one more, judge", 0, 8, Edges.FILLED, (x, c) -> x.way(7, 0, c));
    }

    private static void twentyWays() {
        Edges.says("3: WAYS are BODIES 0 .. 19, as they come; 18: its number. FULL");
        DoorBench x = new DoorBench();
        for (int w = 0; w < 20; w++) {
            Edges.due("ways", w, x.count(1));
            Edges.due("way", w, x.way(w % 8, w % 10, w % 9));
            Edges.due("way that is wrong", w < 19 ? Edges.BAD : Edges.FULL, w < 19 ? x.way(8, 0, 0) : x.way(0, 0, 0));
        }
        Edges.due("ways", 20, x.count(1));
        Edges.due("kind of the first", 0, x.ofWay(0, 0));
        Edges.due("kind of the last", 3, x.ofWay(19, 0));
        Edges.due("there is no other", Edges.BAD, x.ofWay(20, 0));
    }

    private static void ofWay() {
        Edges.says("19: Of a WAY: 0 KIND, 1 s, 2 c (0, if it has none). BAD.");
        Edges.inside("ofWay 6", 0, 6, 2, 1, Edges.USUAL, (x, what) -> x.ofWay(6, what));
        Edges.inside("ofWay w, 0", 0, 0, 7, 7, Edges.USUAL, (x, w) -> x.ofWay(w, 0));
        Edges.inside("ofWay w, 0", 0, 0, 19, 3, Edges.FILLED, (x, w) -> x.ofWay(w, 0));
        Edges.outside("ofWay what", 0, 2, Edges.USUAL, (x, what) -> x.ofWay(6, what));
        Edges.outside("ofWay way", 0, 7, Edges.USUAL, (x, w) -> x.ofWay(w, 0));
        Edges.outside("ofWay way", 0, 19, Edges.FILLED, (x, w) -> x.ofWay(w, 0));
        int[] shifts = {0, 0, 0, 0, 0, 1, 1, 0}, judges = {0, 0, 0, 0, 0, 0, 1, 1};
        for (int way = 0; way < 8; way++) {
            int w = way;
            Edges.due("shift of " + w, shifts[w], Edges.USUAL, x -> x.ofWay(w, 1));
            Edges.due("judge of " + w, judges[w], Edges.USUAL, x -> x.ofWay(w, 2));
        }
    }

    // ---- 20

    private static void outcome() {
        Edges.says("20: yes (what 0), no (1), OPEN (2), TIES that it BREAKS (3); 4 whether it is UNLAWFUL. BAD.");
        // For and against: a 4 to 3, b 4 to 2, c 1 to 5.
        Edges.inside("outcome 1, 0", 0, 3, 4, 1, Edges.USUAL, (x, what) -> x.outcome(1, 0, what));
        Edges.inside("outcome w, 0, 2", 0, 7, 7, 0, Edges.USUAL, (x, w) -> x.outcome(w, 0, 2));
        Edges.inside("outcome 1, a, 2", 0, 0, 5, 127, Edges.USUAL, (x, a) -> x.outcome(1, a, 2));
        Edges.outside("outcome what", 0, 4, Edges.USUAL, (x, what) -> x.outcome(1, 0, what));
        Edges.outside("outcome way", 0, 7, Edges.USUAL, (x, w) -> x.outcome(w, 0, 0));
        Edges.outside("outcome way", 0, 19, Edges.FILLED, (x, w) -> x.outcome(w, 7, 0));
        Edges.outside("outcome agenda", 0, 5, Edges.USUAL, (x, a) -> x.outcome(1, a, 0));
        Edges.bad("outcome of no way", () -> Edges.with("q a"), x -> x.outcome(0, 0, 0));
        for (int way = 0; way < 8; way++) {
            int w = way;
            for (int what = 0; what < 5; what++) {
                int v = what;
                // Nothing is changed by looking.
                long answer = Edges.USUAL.make().outcome(w, 0, v);
                Edges.refused("outcome " + w + " " + v, answer, Edges.USUAL, x -> x.outcome(w, 0, v));
            }
        }
    }

    private static void dueOutcome(String call, DoorBench x, int way, int agenda, int yes, int no) {
        int all = (1 << x.of(agenda, 0)) - 1;
        Edges.due(call + ": yes", yes, x.outcome(way, agenda, 0));
        Edges.due(call + ": no", no, x.outcome(way, agenda, 1));
        Edges.due(call + ": open", all & ~(yes | no), x.outcome(way, agenda, 2));
        Edges.due(call + ": unlawful", 1 - x.stands(agenda, yes, no), x.outcome(way, agenda, 4));
    }

    private static void byHeads() {
        Edges.says("3: BY HEADS it is yes, if FOR is more, no, if AGAINST is more; else OPEN; WAY: all OPEN");
        DoorBench x = Edges.with(TEN);
        Edges.allKinds(x, 0, 0);
        dueOutcome("nobody", x, 1, 0, 0, 0);
        // j: 4 to 4, i: 5 to 4, h: 4 to 5.
        x.judge(0, 4, 896, 0);
        x.judge(0, 4, 0, 896);
        x.judge(0, 1, 256, 128);
        dueOutcome("even, one more, one less", x, 1, 0, 256, 128);
        dueOutcome("way", x, 0, 0, 0, 0);
        dueOutcome("81 to 0", tenWays(nine(TEN, 1023, 0)), 1, 0, 1023, 0);
        dueOutcome("0 to 81", tenWays(nine(TEN, 0, 1023)), 1, 0, 0, 1023);
        dueOutcome("all silent", tenWays(nine(TEN, 0, 0)), 1, 0, 0, 0);
        dueOutcome("way, 81 to 0", tenWays(nine(TEN, 1023, 0)), 0, 0, 0, 0);
    }

    private static DoorBench tenWays(DoorBench x) {
        Edges.allKinds(x, 0, 0);
        return x;
    }

    private static void byPremises() {
        Edges.says("3: PREMISES BY HEADS; if these CAN STAND, each other QUESTION as FORCED by them (OPEN, if not)");
        DoorBench x = tenWays(Edges.with("q abc;t a;t !b", "q abc;p abc;t a&b>c", "q abc;p ab;t !(a&b);t c", "q abc;p a;t a=b"));
        // Without premises: as forced by nothing, whatever the judges say.
        x.judge(0, 9, 4, 0);
        dueOutcome("no premises", x, 2, 0, 1, 2);
        // All are premises: as by heads, unlawful or not, open ones open.
        dueOutcome("all premises, nobody", x, 2, 1, 0, 0);
        x.judge(1, 1, 1, 4);
        x.judge(1, 1, 2, 4);
        dueOutcome("all premises", x, 2, 1, 3, 4);
        // Premises that can't stand: c is open, though it's always yes.
        dueOutcome("premises, nobody", x, 2, 2, 4, 0);
        x.judge(2, 1, 1, 0);
        x.judge(2, 1, 2, 0);
        dueOutcome("premises that can't stand", x, 2, 2, 3, 0);
        // Even: a is open, b isn't forced; one more: both.
        x.judge(3, 2, 1, 0);
        x.judge(3, 2, 0, 1);
        dueOutcome("even premise", x, 2, 3, 0, 0);
        x.judge(3, 1, 1, 0);
        dueOutcome("one more for it", x, 2, 3, 3, 0);
    }

    private static void byEnds() {
        Edges.says("3: ENDS BY HEADS; the others as in the LAWFUL SET that has these, with the least FAR (OPEN, if none has these)");
        DoorBench x = tenWays(Edges.with("q abc;t a|b", "q abc;e abc;t a&b>c", "q abc;e ab;t !(a&b);t c", "q abc;e a;t a=b;t b|c"));
        // Without ends: the nearest lawful set; of like ones the least.
        dueOutcome("no ends, nobody", x, 3, 0, 1, 6);
        x.judge(0, 1, 4, 1);
        dueOutcome("no ends", x, 3, 0, 6, 1);
        dueOutcome("all ends, nobody", x, 3, 1, 0, 0);
        x.judge(1, 1, 1, 4);
        x.judge(1, 1, 2, 4);
        dueOutcome("all ends", x, 3, 1, 3, 4);
        // Ends that none has: c is open, though it's always yes.
        dueOutcome("ends, nobody", x, 3, 2, 4, 0);
        x.judge(2, 1, 1, 0);
        x.judge(2, 1, 2, 0);
        dueOutcome("ends that none has", x, 3, 2, 3, 0);
        // Even: a is open, and stays so; the others as in the nearest of all.
        x.judge(3, 2, 1, 0);
        x.judge(3, 2, 0, 1);
        dueOutcome("even end", x, 3, 3, 2, 4);
        x.judge(3, 1, 0, 1);
        dueOutcome("one more against it", x, 3, 3, 4, 3);
    }

    private static void near() {
        Edges.says("3: NEAR: the LAWFUL SET with the least FAR, of like ones the least");
        DoorBench x = tenWays(Edges.with(TEN, TEN + ";t j", "q a;t a"));
        dueOutcome("nobody: the least", x, 4, 0, 0, 1023);
        dueOutcome("nobody: the least lawful", x, 4, 1, 512, 511);
        x.judge(2, 9, 0, 0);
        dueOutcome("the only one", x, 4, 2, 1, 0);
        x.judge(0, 1, 512, 0);
        dueOutcome("one for j", x, 4, 0, 512, 511);
        x.judge(0, 1, 0, 512);
        dueOutcome("even on j", x, 4, 0, 0, 1023);
        // a leans to yes by 1, b to no by 2: together they are no; the least set is one like any other.
        DoorBench y = tenWays(Edges.with("q ab;t a=b"));
        y.judge(0, 1, 1, 0);
        y.judge(0, 2, 0, 2);
        dueOutcome("set 0 is the nearest", y, 4, 0, 0, 3);
        dueOutcome("set 0 is the nearest, no ends", y, 3, 0, 0, 3);
        dueOutcome("810 apart from the other end", tenWays(nine(TEN, 1023, 0)), 4, 0, 1023, 0);
    }

    private static void inTurns() {
        Edges.says("3: TURNS (told with a shift s, 0 .. 9): QUESTIONS in the order s, s + 1 .. (round, by their number)");
        DoorBench x = Edges.with(TEN + ";t !(a&j)", "q abc;t !2{a,b,c}", "q a");
        for (int s = 0; s < 10; s++) Edges.due("way", s, x.way(5, s, 0));
        x.judge(0, 1, 1, 0);
        x.judge(0, 1, 512, 0);
        for (int j = 0; j < 3; j++) x.judge(1, 1, 1 << j, 0);
        x.judge(2, 1, 1, 0);
        for (int s = 0; s < 10; s++) {
            // a comes ahead of j only from a itself on; of three one is yes: the first.
            dueOutcome("ten from " + s, x, s, 0, s == 0 ? 1 : 512, s == 0 ? 1022 : 511);
            dueOutcome("three from " + s, x, s, 1, 1 << s % 3, 7 & ~(1 << s % 3));
            dueOutcome("one from " + s, x, s, 2, 1, 0);
        }
        Edges.says("3: OPEN ones as no");
        x.judge(2, 1, 0, 1);
        for (int s = 0; s < 10; s += 9) dueOutcome("even", x, s, 2, 0, 1);
        x.clear(1);
        for (int s = 0; s < 10; s++) dueOutcome("nobody", x, s, 1, 0, 7);
        Edges.says("3: each as FORCED by those ahead of it; else BY HEADS");
        DoorBench y = Edges.with("q ab;t a", "q ab;t !a;t a=b");
        y.way(5, 0, 0);
        y.way(5, 1, 0);
        y.judge(0, 9, 0, 2);
        dueOutcome("forced by nothing", y, 0, 0, 1, 2);
        dueOutcome("forced by nothing", y, 1, 1, 0, 3);
    }

    private static void chair() {
        Edges.says("3: CHAIR, told with a JUDGE c as well: as JUDGE c answers, SILENT or none such: no");
        DoorBench x = Edges.with("q ab");
        x.way(6, 0, 0);
        x.way(6, 0, 8);
        x.judge(0, 1, 1, 2);
        x.judge(0, 1, 2, 1);
        for (int j = 2; j < 8; j++) x.judge(0, 1, 0, 0);
        dueOutcome("chair 0 of eight", x, 0, 0, 1, 2);
        dueOutcome("chair 8 of eight: none such", x, 1, 0, 0, 3);
        x.judge(0, 1, 0, 0);
        dueOutcome("chair 8 of nine, silent", x, 1, 0, 0, 3);
        x.change(0, 8, 2, 0);
        x.change(0, 7, 0, 2);
        dueOutcome("chair 8 of nine: yes to b, silent on a", x, 1, 0, 2, 1);
        dueOutcome("chair 0: no to b", x, 0, 0, 1, 2);
        x.change(0, 7, 0, 0);
        x.change(0, 0, 0, 2);
        // a has one against it, b is even: 1 and 8 for it, 0 and 6 against.
        x.change(0, 6, 0, 2);
        dueOutcome("only open ones are asked", x, 1, 0, 2, 1);
        x.clear(0);
        dueOutcome("nobody", x, 0, 0, 0, 3);
    }

    private static void leader() {
        Edges.says("3: LEADER: as JUDGE c answers, the others as FORCED by that (OPEN, if not; none such: all OPEN)");
        DoorBench x = Edges.with("q abc;t a=b;t c");
        x.way(7, 0, 0);
        x.way(7, 0, 8);
        dueOutcome("nobody: even what is always so is open", x, 0, 0, 0, 0);
        for (int j = 0; j < 8; j++) x.judge(0, 9, 0, 1);
        dueOutcome("leader 0", x, 0, 0, 4, 3);
        dueOutcome("leader 8 of eight: none such", x, 1, 0, 0, 0);
        x.judge(0, 1, 0, 0);
        dueOutcome("leader 8 of nine, silent", x, 1, 0, 4, 0);
        x.change(0, 8, 1, 0);
        dueOutcome("leader 8 of nine", x, 1, 0, 7, 0);
        x.change(0, 8, 3, 0);
        dueOutcome("leader 8 of nine, two answers", x, 1, 0, 7, 0);
    }

    private static void breaks() {
        Edges.says("3: BREAKS a TIE does an OUTCOME, if that fails however OPEN ones are answered. UNLAWFUL");
        String eight = "q abc" + Edges.repeat(";t c=a&b", 8);
        DoorBench x = tenWays(Edges.with(eight, "q abcdefghij;t j=h&i;t g>h|i|a;t a|!a", "q abcd;t d=a&b;t d=c", "q ab"));
        Edges.due("nobody breaks any", 0, x.outcome(1, 0, 3));
        Edges.due("nobody is lawful", 0, x.outcome(1, 0, 4));
        x.judge(0, 1, 7, 0);
        x.judge(0, 1, 1, 6);
        x.judge(0, 1, 2, 5);
        Edges.due("all eight", 255, x.outcome(1, 0, 3));
        Edges.due("unlawful", 1, x.outcome(1, 0, 4));
        x.judge(0, 1, 4, 0);
        Edges.due("c is open: none", 0, x.outcome(1, 0, 3));
        Edges.due("c is open: lawful", 0, x.outcome(1, 0, 4));
        x.judge(1, 1, 128 + 256 + 512, 0);
        x.judge(1, 1, 128, 512);
        x.judge(1, 1, 256, 512);
        Edges.due("high ones", 1, x.outcome(1, 1, 3));
        // a and b yes, c no, d open: either tie can be kept by d, but not both.
        x.judge(2, 1, 15, 0);
        x.judge(2, 1, 1, 14);
        x.judge(2, 1, 2, 13);
        x.judge(2, 1, 8, 0);
        dueOutcome("d is open", x, 1, 2, 3, 4);
        Edges.due("d is open: none is broken", 0, x.outcome(1, 2, 3));
        Edges.due("and yet unlawful", 1, x.outcome(1, 2, 4));
        Edges.due("no ties", 0, x.outcome(1, 3, 3));
        Edges.due("no ties, all open", 0, x.outcome(0, 3, 3));
        Edges.due("no ties, lawful", 0, x.outcome(0, 3, 4));
    }
}
