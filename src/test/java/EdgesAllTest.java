/** The edges that the document names, promises 21 to 30: all benches, all rows, laws, mends, orders. */
public final class EdgesAllTest {
    private static final String TEN = "q abcdefghij";
    /** Twelve lawful sets; heads fail only where ab, ac and bc (numbers 8, 10, 11) meet. */
    private static final String LATE = "q defghabc;t e>d;t f>e;t g>f;t h>g;t d>!1{a,b,c};t !(a&b&c)";
    /** Six lawful sets; the last two have the same premises. */
    private static final String PAIR = "q abcd;p abc;t c>!a&!b;t d>c";

    public static void main(String[] args) {
        oneToFive();
        twelveLawful();
        benches();
        unlawful();
        unlike();
        sway();
        twist();
        twistIsOther();
        twisted();
        oneToThree();
        sixLawful();
        laws();
        breach();
        keeper();
        mend();
        mendOfTwelve();
        orders();
        ordersOfSix();
        Edges.end("edges of all benches and laws");
    }

    // ---- what 21 to 26 share

    /** A call over all benches, with what they have in common left open. */
    private interface OverAll {
        long on(DoorBench x, int way, int agenda, int n);
    }

    private static final String[] NAMES = {"benches", "unlawful 0", "unlawful 1", "unlike 0", "unlike 1", "sway", "twisted"};
    private static final OverAll[] CALLS = {
        (x, w, a, n) -> x.benches(a, n), (x, w, a, n) -> x.unlawful(w, a, n, 0), (x, w, a, n) -> x.unlawful(w, a, n, 1),
        (x, w, a, n) -> x.unlike(w, 4, a, n, 0), (x, w, a, n) -> x.unlike(4, w, a, n, 1), (x, w, a, n) -> x.sway(w, a, n, 0),
        (x, w, a, n) -> x.twisted(w, a, n),
    };

    private static void oneToFive() {
        Edges.says("4: ALL BENCHES of n JUDGES (1 .. 5); 21 to 26: BAD");
        for (int i = 0; i < CALLS.length; i++) {
            OverAll call = CALLS[i];
            String name = NAMES[i];
            Edges.outside(name + ", n", 1, 5, Edges.USUAL, (x, n) -> call.on(x, 1, 0, n));
            Edges.outside(name + ", agenda", 0, 5, Edges.USUAL, (x, a) -> call.on(x, 1, a, 1));
            if (i > 0) Edges.outside(name + ", way", 0, 7, Edges.USUAL, (x, w) -> call.on(x, w, 0, 1));
            if (i > 0) Edges.outside(name + ", way", 0, 19, Edges.FILLED, (x, w) -> call.on(x, w, 0, 1));
            if (i > 0) Edges.bad(name + " of no way", () -> Edges.with("q a"), x -> call.on(x, 0, 0, 1));
            for (int n : new int[] {1, 5}) {
                // The bench as it is doesn't change by it.
                long answer = call.on(Edges.USUAL.make(), 1, 1, n);
                Edges.due(name + " of " + n + " isn't refused", 1, answer >= 0 || answer == Edges.NOT ? 1 : 0);
                Edges.refused(name + " of " + n, answer, Edges.USUAL, x -> call.on(x, 1, 1, n));
            }
        }
        Edges.outside("unlike, other", 0, 7, Edges.USUAL, (x, w) -> x.unlike(1, w, 0, 1, 0));
        Edges.outside("unlawful, what", 0, 1, Edges.USUAL, (x, what) -> x.unlawful(1, 0, 1, what));
        Edges.outside("unlike, what", 0, 1, Edges.USUAL, (x, what) -> x.unlike(1, 2, 0, 1, what));
        Edges.outside("sway, question", 0, 2, Edges.USUAL, (x, q) -> x.sway(1, 0, 1, q));
        Edges.outside("sway, question", 0, 3, Edges.USUAL, (x, q) -> x.sway(1, 1, 1, q));
    }

    private static void twelveLawful() {
        Edges.says("4: a LAWFUL SET (12 at most, else BIG)");
        for (int i = 0; i < CALLS.length; i++) {
            OverAll call = CALLS[i];
            String name = NAMES[i];
            for (int n = 1; n <= 5; n++) {
                int m = n;
                Edges.refused(name + " of 13 sets", Edges.BIG, Edges.USUAL, x -> call.on(x, 1, 2, m));
                Edges.refused(name + " of 128 sets", Edges.BIG, Edges.USUAL, x -> call.on(x, 1, 5, m));
                Edges.due(name + " of 12 sets", 0, Edges.USUAL, x -> call.on(x, 1, 1, m) == Edges.BIG ? 1 : 0);
            }
            Edges.says("21 to 26: BAD, BIG: of several the one named first");
            Edges.outside(name + " of 13 sets, n", 1, 5, Edges.USUAL, (x, n) -> call.on(x, 1, 2, n));
            if (i > 0) Edges.outside(name + " of 13 sets, way", 0, 7, Edges.USUAL, (x, w) -> call.on(x, w, 2, 1));
        }
        Edges.outside("unlike of 13 sets, other", 0, 7, Edges.USUAL, (x, w) -> x.unlike(1, w, 2, 1, 0));
        Edges.outside("unlawful of 13 sets, what", 0, 1, Edges.USUAL, (x, what) -> x.unlawful(1, 2, 1, what));
        Edges.outside("unlike of 13 sets, what", 0, 1, Edges.USUAL, (x, what) -> x.unlike(1, 2, 2, 1, what));
        Edges.outside("sway of 13 sets, question", 0, 3, Edges.USUAL, (x, q) -> x.sway(1, 2, 1, q));
    }

    // ---- 21 to 24

    private static void benches() {
        Edges.says("4: each BENCH told once up to who is who");
        DoorBench x = Edges.with("q a;t a", "q a", Edges.TWELVE);
        int[] ofTwelve = {12, 78, 364, 1365, 4368};
        for (int n = 1; n <= 5; n++) {
            Edges.due("benches of one set", 1, x.benches(0, n));
            Edges.due("benches of two sets", n + 1, x.benches(1, n));
            Edges.due("benches of twelve sets", ofTwelve[n - 1], x.benches(2, n));
        }
    }

    private static void unlawful() {
        Edges.says("22: HOW MANY (what 0), the FIRST (1; NOT: none)");
        DoorBench x = Edges.with(LATE, "q a;t a", Edges.AND);
        Edges.allKinds(x, 0, 4);
        Edges.due("lawful sets", 12, x.of(0, 4));
        for (int n : new int[] {1, 2, 4}) {
            Edges.due("none of " + n, 0, x.unlawful(1, 0, n, 0));
            Edges.due("no first of " + n, Edges.NOT, x.unlawful(1, 0, n, 1));
        }
        Edges.due("one of three", 1, x.unlawful(1, 0, 3, 0));
        // a or b or c with one of ab, one of ac, and two of bc or the like; and no single one, 3 ways.
        Edges.due("six of five", 6, x.unlawful(1, 0, 5, 0));
        Edges.says("4: told as LAWFUL numbers, base 16, the first JUDGE's the lowest");
        Edges.due("the first of three", 0xba8, x.unlawful(1, 0, 3, 1));
        Edges.due("the first of five", 0xbba86, x.unlawful(1, 0, 5, 1));
        for (int n = 1; n <= 5; n++) Edges.due("one set only", Edges.NOT, x.unlawful(1, 1, n, 1));
        for (int w = 0; w < 8; w++) {
            if (w != 1) Edges.due("never by way " + w, Edges.NOT, x.unlawful(w, 2, 5, 1));
        }
    }

    private static void unlike() {
        Edges.says("23: Two WAYS with unlike OUTCOMES, likewise.");
        DoorBench x = Edges.with(LATE, "q a;t a", Edges.TWELVE);
        Edges.allKinds(x, 0, 4);
        x.way(7, 0, 0);
        Edges.due("heads and near: one of three", 1, x.unlike(1, 4, 0, 3, 0));
        Edges.due("heads and near: first of three", 0xba8, x.unlike(1, 4, 0, 3, 1));
        Edges.due("near and heads: first of three", 0xba8, x.unlike(4, 1, 0, 3, 1));
        Edges.due("a way and itself", 0, x.unlike(4, 4, 0, 5, 0));
        Edges.due("a way and itself: none", Edges.NOT, x.unlike(4, 4, 0, 5, 1));
        for (int n = 1; n <= 5; n++) {
            // The first of all benches is number 0, which is no refusal.
            Edges.due("way and near: the first of all", 0, x.unlike(0, 4, 2, n, 1));
            Edges.due("way and near: all", x.benches(2, n), x.unlike(0, 4, 2, n, 0));
            Edges.due("one set only", 1, x.unlike(0, 1, 1, n, 0));
            // Leader 4 is there from five judges on; leader 0 always.
            Edges.due("leader 4 of " + n + ", way", n < 5 ? Edges.NOT : 0, x.unlike(7, 0, 2, n, 1));
            Edges.due("leaders", n < 5 ? 0 : 1 << 16, x.unlike(7, 8, 2, n, 1));
        }
    }

    private static void sway() {
        Edges.says("4: SWAY of a WAY and QUESTION: at how many of them it is yes");
        DoorBench x = Edges.with("q abcde;t e;t 1{a,b,c};t !(a&b&c)", "q a", "q a;t !a");
        Edges.allKinds(x, 0, 4);
        for (int n = 1; n <= 5; n++) {
            Edges.due("always yes", x.benches(0, n), x.sway(1, 0, n, 4));
            Edges.due("by nobody", 0, x.sway(0, 0, n, 4));
            Edges.due("never yes", 0, x.sway(1, 2, n, 0));
            // Of 0 .. n for it more than half.
            Edges.due("one of two", (n + 1) / 2, x.sway(1, 1, n, 0));
            Edges.due("leader 4 of " + n, n < 5 ? 0 : x.sway(7, 0, 5, 4), x.sway(7, 0, n, 4));
        }
        Edges.due("all of 4368", 4368, x.sway(1, 0, 5, 4));
        Edges.due("leader 4 of 5", 4368, x.sway(7, 0, 5, 4));
    }

    // ---- 25 and 26

    private static void twist() {
        Edges.says("25: TWIST of a JUDGE at the BENCH as it is: the SET; NOT: none. BAD (also SILENT on some).");
        Edges.outside("twist, way", 0, 7, Edges.USUAL, (x, w) -> x.twist(w, 0, 0));
        Edges.outside("twist, agenda", 0, 0, Edges.USUAL, (x, a) -> x.twist(1, a, 0));
        Edges.outside("twist, judge", 0, 2, Edges.USUAL, (x, j) -> x.twist(1, 0, j));
        Edges.bad("twist of nobody", Edges.USUAL, x -> x.twist(1, 5, 0));
        Edges.bad("twist of one that is silent on two", Edges.USUAL, x -> x.twist(1, 0, 3));
        Edges.bad("twist of one that is silent on some of four", Edges.USUAL, x -> x.twist(1, 1, 0));
        Edges.bad("twist of the silent, no such way", Edges.USUAL, x -> x.twist(8, 0, 3));
        Edges.outside("twist of the silent, judge", 0, -1, Edges.USUAL, (x, j) -> x.twist(1, 1, j));
        for (int way = 0; way < 8; way++) {
            int w = way;
            for (int judge = 0; judge < 3; judge++) {
                int j = judge;
                // Sets are tried in place of a judge's own, and nothing of that stays.
                long answer = Edges.USUAL.make().twist(w, 0, j);
                Edges.refused("twist " + w + " " + j, answer, Edges.USUAL, x -> x.twist(w, 0, j));
            }
        }
        DoorBench y = Edges.with("q ab", "q ab;t a;t b", TEN + ";p a;t a=!j");
        Edges.allKinds(y, 0, 0);
        y.judge(0, 1, 1, 0);
        Edges.due("silent on one", Edges.BAD, y.twist(1, 0, 0));
        y.change(0, 0, 1, 2);
        Edges.due("silent on none", Edges.NOT, y.twist(1, 0, 0));
        y.change(0, 0, 0, 2);
        Edges.due("silent on one again", Edges.BAD, y.twist(1, 0, 0));
        for (int j = 0; j < 9; j++) y.judge(1, 9, 3, 0);
        for (int w = 0; w < 8; w++) Edges.due("one set only, way " + w, Edges.NOT, y.twist(w, 1, 8));
        Edges.due("judge 9", Edges.BAD, y.twist(1, 1, 9));
        // More than 12 lawful sets are no matter here.
        y.judge(2, 1, 1, 1022);
        y.judge(2, 1, 0, 0);
        for (int w = 0; w < 8; w++) Edges.due("512 sets, way " + w, Edges.NOT, y.twist(w, 2, 0));
    }

    private static void twistIsOther() {
        Edges.says("4: a TWIST is such a SET by which APART is less; the one with the least APART, of like ones the least");
        DoorBench x = Edges.with("q abcd;p ab;e cd;t c=a&b;t d=c", "q abcde;p ab;t c=a&b;t d=c;t e=d");
        x.way(2, 0, 0);
        x.judge(0, 1, 15, 0);
        x.judge(0, 1, 1, 14);
        x.judge(0, 1, 2, 13);
        // All yes is three apart from a alone; 0 and b alone both make it two: 0 is less.
        Edges.due("of like ones the least", 0, x.twist(0, 0, 1));
        // With weights: all has 2, a alone 2, b alone 1; b is open if a alone turns to b, so only 0 helps.
        x.clear(0);
        x.judge(0, 2, 15, 0);
        x.judge(0, 2, 1, 14);
        x.judge(0, 1, 2, 13);
        Edges.due("as it is, with weights", 0, x.twist(0, 0, 1));
        x.clear(0);
        x.judge(0, 9, 15, 0);
        x.judge(0, 8, 1, 14);
        Edges.due("a weight that can't do it", Edges.NOT, x.twist(0, 0, 1));
        Edges.says("4: (OPEN ones are not)");
        // Even: nothing but a is had, b, c, d are open: three apart. Turned to 0: a is open too, no less.
        x.clear(0);
        x.judge(0, 9, 15, 0);
        x.judge(0, 9, 1, 14);
        Edges.due("open ones are apart", Edges.NOT, x.twist(0, 0, 1));
    }

    private static void twisted() {
        Edges.says("4: TWISTED of n: at how many of ALL BENCHES some JUDGE has a TWIST");
        DoorBench x = Edges.with("q abcdef;p ab;e cd;t c=a&b;t d=c;t e|f", "q a;t a", "q bcda;p a;t b=c;t c=d;t a|b");
        x.way(2, 0, 0);
        x.way(4, 0, 0);
        x.way(6, 0, 3);
        Edges.due("lawful sets", 12, x.of(0, 4));
        int[] premises = {0, 9, 27, 225, 486}, near = {0, 0, 0, 54, 0}, chair = {0, 0, 27, 126, 486};
        for (int n = 1; n <= 5; n++) {
            Edges.due("premises of " + n, premises[n - 1], x.twisted(0, 0, n));
            Edges.due("near of " + n, near[n - 1], x.twisted(1, 0, n));
            Edges.due("chair 3 of " + n, chair[n - 1], x.twisted(2, 0, n));
            Edges.due("one set only", 0, x.twisted(0, 1, n));
        }
        // Lawful: no to a alone, yes to a alone, all. By a yes the others are open: three apart of all, which
        // by the first set are one apart. So it is at the last bench, and by the first set alone.
        Edges.due("the last bench, by the first set", 1, x.twisted(0, 2, 1));
    }

    // ---- what 27 and 28 share

    private static void oneToThree() {
        Edges.says("5: over ALL ROWS of n JUDGES (1 .. 3; 27, 28: BAD");
        Edges.inside("breach, n", 1, 0, 3, Edges.NOT, Edges.USUAL, (x, n) -> x.breach(1, 0, n, 4));
        Edges.outside("breach, n", 1, 3, Edges.USUAL, (x, n) -> x.breach(1, 0, n, 0));
        Edges.outside("breach, agenda", 0, 5, Edges.USUAL, (x, a) -> x.breach(1, a, 1, 0));
        Edges.outside("breach, way", 0, 7, Edges.USUAL, (x, w) -> x.breach(w, 0, 1, 0));
        Edges.outside("breach, way", 0, 19, Edges.FILLED, (x, w) -> x.breach(w, 0, 1, 0));
        Edges.bad("breach of no way", () -> Edges.with("q a"), x -> x.breach(0, 0, 1, 0));
        Edges.inside("keeper, n", 1, 1, 3, 1, Edges.USUAL, (x, n) -> x.keeper(0, n, 4));
        Edges.outside("keeper, n", 1, 3, Edges.USUAL, (x, n) -> x.keeper(0, n, 1));
        Edges.outside("keeper, agenda", 0, 5, Edges.USUAL, (x, a) -> x.keeper(a, 1, 1));
        for (int n = 1; n <= 3; n++) {
            int m = n;
            for (int law = 0; law < 5; law++) {
                int l = law;
                long answer = Edges.USUAL.make().breach(2, 0, m, l), first = Edges.USUAL.make().keeper(0, m, 1 << l);
                Edges.refused("breach " + l + " of " + m, answer, Edges.USUAL, x -> x.breach(2, 0, m, l));
                Edges.refused("keeper " + l + " of " + m, first, Edges.USUAL, x -> x.keeper(0, m, 1 << l));
            }
        }
    }

    private static void sixLawful() {
        Edges.says("5: 6 LAWFUL SETS at most, else BIG");
        for (int n = 1; n <= 3; n++) {
            int m = n;
            for (int agenda : new int[] {4, 1, 2, 5}) {
                Edges.refused("breach of agenda " + agenda, Edges.BIG, Edges.USUAL, x -> x.breach(1, agenda, m, 4));
                Edges.refused("keeper of agenda " + agenda, Edges.BIG, Edges.USUAL, x -> x.keeper(agenda, m, 31));
            }
            Edges.due("breach of six", Edges.NOT, Edges.USUAL, x -> x.breach(1, 3, m, 0));
            Edges.due("keeper of six", 0, Edges.USUAL, x -> x.keeper(3, m, 1));
        }
        Edges.says("27, 28: BAD, BIG: of several the one named first");
        Edges.outside("breach of seven, n", 1, 3, Edges.USUAL, (x, n) -> x.breach(1, 4, n, 0));
        Edges.outside("breach of seven, way", 0, 7, Edges.USUAL, (x, w) -> x.breach(w, 4, 1, 0));
        Edges.outside("breach of seven, law", 0, 4, Edges.USUAL, (x, law) -> x.breach(1, 4, 1, law));
        Edges.outside("keeper of seven, n", 1, 3, Edges.USUAL, (x, n) -> x.keeper(4, n, 1));
        Edges.outside("keeper of seven, laws", 1, 31, Edges.USUAL, (x, laws) -> x.keeper(4, 1, laws));
    }

    private static void laws() {
        Edges.says("27: a LAW (0 .. 4); 28: LAWS (bits 1 .. 31)");
        Edges.inside("breach, law", 0, Edges.NOT, 4, 0, Edges.USUAL, (x, law) -> x.breach(1, 0, 1, law));
        Edges.outside("breach, law", 0, 4, Edges.USUAL, (x, law) -> x.breach(1, 0, 1, law));
        Edges.inside("keeper, laws", 1, 0, 31, Edges.NOT, Edges.USUAL, (x, laws) -> x.keeper(0, 3, laws));
        Edges.outside("keeper, laws", 1, 31, Edges.USUAL, (x, laws) -> x.keeper(0, 3, laws));
    }

    private static void breach() {
        Edges.says("5: rows of LAWFUL numbers, all orders, the first JUDGE's counts most; ROW number r");
        DoorBench x = Edges.with(PAIR, "q a;t a", Edges.AND);
        Edges.allKinds(x, 0, 1);
        x.way(7, 0, 2);
        x.way(7, 0, 0);
        Edges.due("lawful sets", 6, x.of(0, 4));
        // The last two sets have the same premises: sets 4, 4 4 and 4 4 4 are the first whose d is open.
        Edges.due("premises, mind of one", 4, x.breach(2, 0, 1, 2));
        Edges.due("premises, mind of two", 4 * 6 + 4, x.breach(2, 0, 2, 2));
        Edges.due("premises, mind of three", 4 * 36 + 4 * 6 + 4, x.breach(2, 0, 3, 2));
        // Leader 1 at 1 0 is unlike 0 1; leaders 1 and 2 at 0 1 0 are unlike 0 0 1; leader 0 at 1 0 0 is unlike that.
        Edges.due("leader 1, alike of two", 6, x.breach(7, 0, 2, 0));
        Edges.due("leader 1, alike of three", 6, x.breach(7, 0, 3, 0));
        Edges.due("leader 2, alike of three", 6, x.breach(8, 0, 3, 0));
        Edges.due("leader 0, alike of two", 6, x.breach(9, 0, 2, 0));
        Edges.due("leader 0, alike of three", 36, x.breach(9, 0, 3, 0));
        Edges.due("leader 2 of two: none such", Edges.NOT, x.breach(8, 0, 2, 0));
        Edges.due("heads, lawful: 1 2 3", 27, x.breach(1, 2, 3, 3));
        Edges.due("heads of two, lawful", Edges.NOT, x.breach(1, 2, 2, 3));
        Edges.says("5: 2 MIND: if all have one SET the OUTCOME is that");
        for (int n = 1; n <= 3; n++) {
            Edges.due("way, mind: row 0 is no refusal", 0, x.breach(0, 0, n, 2));
            Edges.due("heads, mind", Edges.NOT, x.breach(1, 0, n, 2));
        }
        Edges.says("5: 1 OWN: the least r such that a lesser row has that QUESTION answered alike, and unlike in the OUTCOME");
        // All no to a and b, yes to c and no to d, is row 4; its d is open, and no in row 0.
        Edges.due("premises, own of one", 4, x.breach(2, 0, 1, 1));
        Edges.due("heads, own", Edges.NOT, x.breach(1, 0, 3, 1));
        DoorBench y = Edges.with("q ab;p a;t b>a", "q ab;p a;t a>b", "q ba;p a;t a|b");
        y.way(2, 0, 0);
        // Sets 0, 1, 3: no to b is no at row 0, and open at row 1.
        Edges.due("no, then open", 1, y.breach(0, 0, 1, 1));
        // Sets 0, 2, 3: yes to b is open at row 1, and yes at row 2.
        Edges.due("open, then yes", 2, y.breach(0, 1, 1, 1));
        // Sets b, a, both: yes to b is yes at row 0, and open at row 2.
        Edges.due("yes, then open", 2, y.breach(0, 2, 1, 1));
        Edges.says("5: of 4: the JUDGE");
        Edges.due("heads of one: judge 0", 0, x.breach(1, 0, 1, 4));
        Edges.due("leader 1 of one: none such", Edges.NOT, x.breach(7, 0, 1, 4));
        Edges.due("leader 1 of two", 1, x.breach(7, 0, 2, 4));
        Edges.due("leader 2 of three", 2, x.breach(8, 0, 3, 4));
        Edges.due("leader 0 of three", 0, x.breach(9, 0, 3, 4));
        Edges.due("one set only: all are, judge 0 first", 0, x.breach(8, 1, 3, 4));
        Edges.due("heads of two: nobody", Edges.NOT, x.breach(1, 0, 2, 4));
    }

    private static void keeper() {
        Edges.says("28: The first WAY that keeps LAWS; NOT: NONE does");
        Edges.refused("no ways", Edges.NOT, () -> Edges.with(Edges.AND), x -> x.keeper(0, 3, 1));
        DoorBench x = Edges.with(Edges.AND);
        for (int w = 0; w < 19; w++) x.way(0, 0, 0);
        Edges.due("the first of nineteen", 0, x.keeper(0, 3, 1));
        Edges.due("none of nineteen has its mind", Edges.NOT, x.keeper(0, 3, 4));
        x.way(4, 0, 0);
        Edges.due("the last of twenty", 19, x.keeper(0, 3, 4));
        Edges.due("all but own", 19, x.keeper(0, 3, 29));
        Edges.due("all", Edges.NOT, x.keeper(0, 3, 31));
        Edges.due("the first still", 0, x.keeper(0, 3, 1 + 2 + 8 + 16));
        for (int law = 0; law < 5; law++) {
            int kept = x.breach(0, 0, 3, law) == Edges.NOT ? 0 : 19;
            Edges.due("law " + law + " alone", kept, x.keeper(0, 3, 1 << law));
        }
    }

    // ---- 29 and 30

    private static void dueMend(DoorBench x, int agenda, int n, int many, int which, int rivals) {
        Edges.due("mend " + agenda + " by " + n, many, x.mend(agenda, n, 0));
        Edges.due("which " + agenda + " by " + n, which, x.mend(agenda, n, 1));
        Edges.due("rivals " + agenda + " by " + n, rivals, x.mend(agenda, n, 2));
    }

    private static void dueNoMend(DoorBench x, int agenda, int n) {
        dueMend(x, agenda, n, Edges.NOT, Edges.NOT, Edges.NOT);
    }

    private static void mend() {
        Edges.says("29: MEND by n (1 .. 5): how many TIES (what 0), which (1), RIVALS (2). BAD; NOT.");
        Edges.inside("mend, n", 1, 0, 5, 1, Edges.USUAL, (x, n) -> x.mend(0, n, 0));
        Edges.inside("mend, what", 0, 1, 2, 1, Edges.USUAL, (x, what) -> x.mend(0, 3, what));
        Edges.inside("mend, agenda", 0, 1, 5, Edges.NOT, Edges.USUAL, (x, a) -> x.mend(a, 3, 0));
        Edges.outside("mend, n", 1, 5, Edges.USUAL, (x, n) -> x.mend(0, n, 0));
        Edges.outside("mend, what", 0, 2, Edges.USUAL, (x, what) -> x.mend(0, 3, what));
        Edges.outside("mend, agenda", 0, 5, Edges.USUAL, (x, a) -> x.mend(a, 3, 0));
        Edges.outside("mend of 13 sets, n", 1, 5, Edges.USUAL, (x, n) -> x.mend(2, n, 0));
        Edges.outside("mend of 13 sets, what", 0, 2, Edges.USUAL, (x, what) -> x.mend(2, 3, what));
        for (int n = 1; n <= 5; n++) {
            int m = n;
            Edges.refused("mend of 13 sets", Edges.NOT, Edges.USUAL, x -> x.mend(2, m, 0));
            Edges.refused("mend of 128 sets", Edges.NOT, Edges.USUAL, x -> x.mend(5, m, 2));
            long answer = Edges.USUAL.make().mend(0, m, 1);
            Edges.refused("mend", answer, Edges.USUAL, x -> x.mend(0, m, 1));
        }
        Edges.says("5: the fewest TIES to drop; of several the least as bits; how many such sets of TIES (RIVALS)");
        String eight = "q abc" + Edges.repeat(";t c=a&b", 8);
        DoorBench x = Edges.with("q ab", "q a;t a", eight, "q abc;t a&b>c;t c>a;t c>b;t a|!a");
        for (int n = 1; n <= 5; n++) {
            dueMend(x, 0, n, 0, 0, 1);
            dueMend(x, 1, n, 0, 0, 1);
            // Heads of four can't break c = a & b: two to two is open.
            boolean breaks = n == 3 || n == 5;
            dueMend(x, 2, n, breaks ? 8 : 0, breaks ? 255 : 0, 1);
            // Only a & b > c is of more than two questions: it must go; the others need not.
            dueMend(x, 3, n, breaks ? 1 : 0, breaks ? 1 : 0, 1);
        }
    }

    private static void mendOfTwelve() {
        Edges.says("5: (what has more than 12 LAWFUL SETS doesn't count)");
        DoorBench x = Edges.with(Edges.TWELVE, "q abcd;t a|b;t !(b&c&d)", "q abcd;t c|d;t !(a&b&c&d)", "q abcd;t c|d|b&!a;t !(a&b&c&d)");
        // One or two judges break nothing; of four each of a, b, c can't be no by three; of three it can.
        for (int n : new int[] {1, 2, 4}) dueMend(x, 0, n, 0, 0, 1);
        // Without either tie there are 14 sets.
        for (int n : new int[] {3, 5}) dueNoMend(x, 0, n);
        // Twelve sets are left without tie 1, fourteen without tie 0.
        Edges.due("lawful sets", 10, x.of(1, 4));
        dueMend(x, 1, 3, 1, 2, 1);
        dueMend(x, 1, 5, 1, 2, 1);
        // Four judges, each no to another one, make all yes: twelve sets without that tie, or thirteen.
        Edges.due("lawful sets", 11, x.of(2, 4));
        dueMend(x, 2, 4, 1, 2, 1);
        Edges.due("lawful sets", 12, x.of(3, 4));
        dueNoMend(x, 3, 4);
    }

    private static void orders() {
        Edges.says("30: ORDERS by which a QUESTION is yes: how many (what 0), the first (1; NOT: none). BAD, BIG.");
        Edges.inside("orders, question", 0, 4, 2, 2, Edges.USUAL, (x, q) -> {
            x.clear(0);
            x.judge(0, 1, 7, 0);
            x.judge(0, 1, 1, 6);
            x.judge(0, 1, 2, 5);
            return x.orders(0, q, 0);
        });
        Edges.outside("orders, question", 0, 2, Edges.USUAL, (x, q) -> x.orders(0, q, 0));
        Edges.outside("orders, what", 0, 1, Edges.USUAL, (x, what) -> x.orders(0, 0, what));
        Edges.outside("orders, agenda", 0, 5, Edges.USUAL, (x, a) -> x.orders(a, 0, 0));
        for (int what = 0; what < 2; what++) {
            int w = what;
            Edges.refused("orders of seven questions", Edges.BIG, Edges.USUAL, x -> x.orders(5, 6, w));
            long answer = Edges.USUAL.make().orders(0, 0, w);
            Edges.refused("orders", answer, Edges.USUAL, x -> x.orders(0, 0, w));
        }
        Edges.refused("orders, none", 0, () -> Edges.with("q ab"), x -> x.orders(0, 1, 0));
        Edges.refused("orders, no first", Edges.NOT, () -> Edges.with("q ab"), x -> x.orders(0, 1, 1));
        Edges.outside("orders of seven, question", 0, 6, Edges.USUAL, (x, q) -> x.orders(5, q, 0));
        Edges.outside("orders of seven, what", 0, 1, Edges.USUAL, (x, what) -> x.orders(5, 0, what));
    }

    private static void ordersOfSix() {
        Edges.says("5: ORDERS of QUESTIONS (at most 6, else BIG); the digits of a number, the first QUESTION's the highest");
        DoorBench x = Edges.with("q a", "q ab;t b>a", "q abcdef;t f>a", "q abcdef;t b>a;t c>b;t d>c;t e>d;t f>e", TEN, "q abcdef;t a");
        // One question has one order, whose number is 0.
        Edges.due("one, no", 0, x.orders(0, 0, 0));
        Edges.due("one, no first", Edges.NOT, x.orders(0, 0, 1));
        x.judge(0, 1, 1, 0);
        Edges.due("one, yes", 1, x.orders(0, 0, 0));
        Edges.due("one, the first is 0", 0, x.orders(0, 0, 1));
        // Yes to the last, no to a: a is yes only behind it.
        x.judge(1, 1, 2, 0);
        x.judge(1, 1, 0, 1);
        Edges.due("two", 1, x.orders(1, 0, 0));
        Edges.due("two, the first", 10, x.orders(1, 0, 1));
        x.judge(2, 1, 32, 0);
        x.judge(2, 1, 0, 1);
        Edges.due("six", 360, x.orders(2, 0, 0));
        Edges.due("six, the first", 123450, x.orders(2, 0, 1));
        Edges.due("six, the last question", 360, x.orders(2, 5, 0));
        Edges.due("six, a free one", 0, x.orders(2, 1, 0));
        // f must come ahead of all others, and makes all yes.
        x.judge(3, 1, 32, 0);
        x.judge(3, 1, 0, 31);
        Edges.due("chain", 120, x.orders(3, 0, 0));
        Edges.due("chain, the first", 501234, x.orders(3, 0, 1));
        Edges.due("ten questions", Edges.BIG, x.orders(4, 0, 0));
        Edges.due("forced by nothing", 720, x.orders(5, 0, 0));
        Edges.due("forced by nothing, the first", 12345, x.orders(5, 0, 1));
    }
}
