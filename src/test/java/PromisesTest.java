/** For each promise of the document: ordinary calls, the edges that it names, and wrong calls. */
public final class PromisesTest {
    private static final int BAD = -1, NOT = -2, FULL = -3, BIG = -4;
    /** Lawful: 0, 1, 2, 7. The first agenda on which heads fail. */
    private static final String AND = "q abc;p ab;e c;t c=a&b";
    private static int wrong = 0, promise = 0;

    public static void main(String[] args) {
        newObject();
        feed();
        agendaFaults();
        agendaDepth();
        agendaParts();
        agendaImpossible();
        agendaFull();
        of();
        lawful();
        broken();
        stands();
        forced();
        why();
        judge();
        change();
        read();
        clear();
        ofJudge();
        votes();
        far();
        nearest();
        way();
        ofWay();
        outcomeOnFirst();
        outcomeOpen();
        outcomeTurns();
        outcomeLeader();
        outcomeTies();
        manySets();
        benches();
        unlawful();
        unlike();
        sway();
        twist();
        twisted();
        breach();
        keeper();
        mend();
        mendOfFour();
        orders();
        act();
        trace();
        keep();
        row();
        put();
        element();
        shift();
        taken();
        count();
        System.out.println(wrong == 0 ? "all promises as due" : wrong + " answers are not as due");
        if (wrong != 0) System.exit(1);
    }

    private static void due(String call, long want, long got) {
        if (want == got) return;
        wrong++;
        System.out.println("promise " + promise + ": " + call + " answered " + got + ", due is " + want);
    }

    private static void write(DoorBench x, String text) {
        for (int i = 0; i < text.length(); i++) x.feed(1, text.charAt(i));
    }

    private static int tell(DoorBench x, String text) {
        write(x, text);
        return x.agenda();
    }

    private static DoorBench with(String... texts) {
        DoorBench x = new DoorBench();
        for (int i = 0; i < texts.length; i++) due("agenda " + texts[i], i, tell(x, texts[i]));
        return x;
    }

    /** AND with its three judges: all yes; a alone; b alone. */
    private static DoorBench firstBench() {
        DoorBench x = with(AND);
        x.judge(0, 1, 7, 0);
        x.judge(0, 1, 1, 6);
        x.judge(0, 1, 2, 5);
        return x;
    }

    /** Ways 0 .. 7 of the kinds 0 .. 7, with these shifts and judges. */
    private static void allKinds(DoorBench x, int s, int c) {
        for (int kind = 0; kind < 8; kind++) due("way " + kind, kind, x.way(kind, s, c));
    }

    private static void dueSets(String tie, int... sets) {
        String questions = tie.indexOf('c') >= 0 ? "abc" : "ab";
        DoorBench x = with("q " + questions + ";t " + tie);
        due("of 4 of " + tie, sets.length, x.of(0, 4));
        for (int i = 0; i < sets.length; i++) due("lawful " + i + " of " + tie, sets[i], x.lawful(0, i));
    }

    private static void dueAgenda(String text, int want) {
        due("agenda " + text, want, tell(new DoorBench(), text));
    }

    // ---- 1 to 9

    private static void newObject() {
        promise = 1;
        DoorBench x = new DoorBench();
        for (int what = 0; what < 5; what++) due("count " + what, 0, x.count(what));
        due("of", BAD, x.of(0, 0));
        due("ofWay", BAD, x.ofWay(0, 0));
        due("trace", BAD, x.trace(0));
        due("keeper", BAD, x.keeper(0, 1, 1));
        for (int shelf = 0; shelf < 6; shelf++) due("taken", -11, x.taken(shelf, 0));
        due("VOID", -2000000000, DoorBench.VOID);
    }

    private static void feed() {
        promise = 2;
        DoorBench x = new DoorBench();
        due("feed 0", BAD, x.feed(0, 0));
        due("feed 5", BAD, x.feed(5, 0));
        due("feed -1", BAD, x.feed(-1, 0));
        due("count", 0, x.count(2));
        // The lowest byte first, and what is above the told ones doesn't come.
        due("feed 2", 2, x.feed(2, 'q' | ' ' << 8 | 'z' << 16));
        due("feed 3", 5, x.feed(3, 'b' | 'a' << 8 | ';' << 16));
        due("feed 4", 9, x.feed(4, 'p' | ' ' << 8 | 'a' << 16 | 'b' << 24));
        due("agenda", 0, x.agenda());
        due("of 2", 3, x.of(0, 2));
        for (int i = 1; i <= 39; i++) due("feed", 4 * i, x.feed(4, -1));
        due("feed 3", 159, x.feed(3, 0));
        due("feed 2 at 159", FULL, x.feed(2, 0));
        due("feed 0 at 159", BAD, x.feed(0, 0));
        due("count", 159, x.count(2));
        due("feed 1 at 159", 160, x.feed(1, 0));
        due("feed 1 at 160", FULL, x.feed(1, 0));
        due("agenda", -100, x.agenda());
        due("count", 0, x.count(2));
    }

    private static void agendaFaults() {
        promise = 3;
        dueAgenda("", -100);
        dueAgenda("p a", -100);
        dueAgenda("Q a", -100);
        dueAgenda(";", -100);
        dueAgenda("q", -101);
        dueAgenda("qa", -101);
        dueAgenda("q ", -102);
        dueAgenda("q k", -102);
        dueAgenda("q  a", -102);
        dueAgenda("q aa", -103);
        dueAgenda("q a b", -103);
        dueAgenda("q abcdefghija", -112);
        dueAgenda("q a;", -104);
        dueAgenda("q a;;", -104);
        dueAgenda("q a; ", -104);
        dueAgenda("q a;q a", -104);
        dueAgenda("q a;t", -105);
        dueAgenda("q a;t ", -106);
        dueAgenda("q a;t b", -106);
        dueAgenda("q a;t k", -106);
        dueAgenda("q a;t `", -106);
        dueAgenda("q a;t a;", -108);
        dueAgenda("q ab;t a b", -108);
        dueAgenda("q ab;t ab", -108);
        dueAgenda("q ab;t a=", -109);
        dueAgenda("q ab;t =a", -107);
        dueAgenda("q ab;t a>b>a", -110);
        dueAgenda("q ab;t a|", -109);
        dueAgenda("q ab;t a|&b", -109);
        dueAgenda("q ab;t !", -108);
        dueAgenda("q ab;t a!", -108);
        dueAgenda("q ab;t ()", -108);
        dueAgenda("q ab;t (a", -109);
        dueAgenda("q ab;t (a}", -109);
        dueAgenda("q ab;t (a,b)", -109);
        dueAgenda("q ab;t a)", -108);
        dueAgenda("q ab;t {a}", -107);
        dueAgenda("q ab;t 0{a}", -107);
        dueAgenda("q ab;t 1", -108);
        dueAgenda("q ab;t 1a", -108);
        dueAgenda("q ab;t 1(a)", -108);
        dueAgenda("q ab;t 10{a}", -108);
        dueAgenda("q ab;t 1{", -109);
        dueAgenda("q ab;t 1{}", -109);
        dueAgenda("q ab;t 1{a,}", -111);
        dueAgenda("q ab;t 1{a;b}", -110);
        dueAgenda("q ab;t 1{a)", -110);
        dueAgenda("q ab;t \u00e1", -107);
        dueAgenda("q ab;t a\u0000", -108);
    }

    private static void agendaDepth() {
        promise = 3;
        dueAgenda("q a;t !!!!!!a", 0);
        dueAgenda("q a;t !!!!!!!a", -112);
        dueAgenda("q a;t ((((((a))))))", 0);
        dueAgenda("q a;t (((((((a)))))))", -112);
        dueAgenda("q a;t 1{1{1{1{1{1{a}}}}}}", 0);
        // Behind the seventh digit only { could come.
        dueAgenda("q a;t 1{1{1{1{1{1{1{a}}}}}}}", -118);
        dueAgenda("q a;t !(!(1{!a}))", 0);
        dueAgenda("q a;t !(!(1{!(a)}))", -113);
        dueAgenda("q a;t !!!!!a&!!!!!!a|((((((a))))))", 0);
        dueAgenda("q a;t (a)&(a)&(a)&(a)&(a)&(a)&(a)&(a)", 0);
    }

    private static void agendaParts() {
        promise = 3;
        dueAgenda("q a;p", -105);
        dueAgenda("q a;p ", -106);
        dueAgenda("q a;p b", -106);
        dueAgenda("q a;p k", -106);
        dueAgenda("q a;p aa", -107);
        dueAgenda("q a;p a;p a", -108);
        dueAgenda("q a;e a;e a", -108);
        dueAgenda("q a;e ", -106);
        dueAgenda("q ab;e a,b", -108);
        dueAgenda("q a;p a;e a", 0);
        dueAgenda("q a;t a;e a;t a;p a", 0);
        String eight = ";t a;t a;t a;t a;t a;t a;t a;t a";
        dueAgenda("q a" + eight, 0);
        dueAgenda("q a" + eight + ";t a", -136);
        dueAgenda("q a" + eight + ";p a;e a", 0);
        dueAgenda("q a" + eight + ";p a;e a;t a", -144);
        dueAgenda("q a" + eight + ";p a;e a;", -144);
    }

    private static void agendaImpossible() {
        promise = 3;
        dueAgenda("q a;t a&!a", -1001);
        dueAgenda("q ab;t 3{a,b}", -1001);
        dueAgenda("q a;t a;t !a", -1003);
        dueAgenda("q ab;t a;t b;t !a|!b", -1007);
        // Of equally few the least: ties 0 and 1 ahead of 2 and 3, ties 1 and 2 ahead of 0 and 3.
        dueAgenda("q ab;t a;t !a;t b;t !b", -1003);
        dueAgenda("q ab;t a;t b;t !b;t !a", -1006);
        // Fewest ahead of least.
        dueAgenda("q ab;t a;t b;t !(a&b);t !a", -1009);
        dueAgenda("q abcdefghij;t j;t a;t i;t !(i&j)", -1013);
        DoorBench x = new DoorBench();
        due("agenda", -1003, tell(x, "q a;t a;t !a"));
        due("count 0", 0, x.count(0));
        due("count 2", 0, x.count(2));
    }

    private static void agendaFull() {
        promise = 3;
        DoorBench x = new DoorBench();
        for (int i = 0; i < 8; i++) {
            due("agenda with a fault", -102, tell(x, "q "));
            due("agenda", i, tell(x, AND));
        }
        due("agenda", FULL, tell(x, "q ab"));
        due("count 2", 4, x.count(2));
        due("count 0", 8, x.count(0));
        due("of", 4, x.of(7, 4));
        due("of", BAD, x.of(8, 4));
    }

    private static void of() {
        promise = 4;
        DoorBench x = with(AND, "q cab;p ac;e b", "q jihgfedcba;t a;t b;t c");
        int[] first = {3, 1, 3, 4, 4, 0}, second = {3, 0, 3, 4, 8, 0}, third = {10, 3, 0, 0, 128, 0};
        for (int what = 0; what < 6; what++) {
            due("of 0 " + what, first[what], x.of(0, what));
            due("of 1 " + what, second[what], x.of(1, what));
            due("of 2 " + what, third[what], x.of(2, what));
        }
        x.judge(1, 1, 1, 0);
        due("of 1 5", 1, x.of(1, 5));
        due("of 0 5", 0, x.of(0, 5));
        due("of", BAD, x.of(0, -1));
        due("of", BAD, x.of(0, 6));
        due("of", BAD, x.of(-1, 0));
        due("of", BAD, x.of(3, 0));
    }

    private static void lawful() {
        promise = 5;
        dueSets("a>b", 0, 2, 3);
        dueSets("a=b", 0, 3);
        dueSets("a|b", 1, 2, 3);
        dueSets("a&b", 3);
        dueSets("!a", 0, 2);
        dueSets("!!a", 1, 3);
        dueSets("a|b&c", 1, 3, 5, 6, 7);
        dueSets("(a|b)&c", 5, 6, 7);
        dueSets("a=b=c", 1, 2, 4, 7);
        dueSets("a=(b=c)", 1, 2, 4, 7);
        dueSets("a|b>c", 0, 4, 5, 6, 7);
        dueSets("a>b=c", 1, 4, 6, 7);
        dueSets("a=b>c", 1, 2, 5, 7);
        dueSets("a>b|c", 0, 2, 3, 4, 5, 6, 7);
        dueSets("!a&b|c", 2, 4, 5, 6, 7);
        dueSets("!(a&b)&c", 4, 5, 6);
        dueSets("2{a,b,c}", 3, 5, 6, 7);
        dueSets("!2{a,b,c}", 0, 1, 2, 4);
        dueSets("2{a,a,b}", 1, 3);
        dueSets("3{a,b=c,1{b,c}}", 7);
        dueSets("1{2{a,b},2{b,c}}", 3, 6, 7);
        DoorBench x = with("q abcdefghij;t g=!h;t j", AND);
        due("of 4", 256, x.of(0, 4));
        due("lawful 0", 512 + 64, x.lawful(0, 0));
        due("lawful 255", 1023 - 64, x.lawful(0, 255));
        due("lawful 256", BAD, x.lawful(0, 256));
        due("lawful -1", BAD, x.lawful(1, -1));
        due("lawful 4", BAD, x.lawful(1, 4));
        due("lawful of none", BAD, x.lawful(2, 0));
        due("lawful 3", 7, x.lawful(1, 3));
    }

    private static void broken() {
        promise = 6;
        DoorBench x = with("q ab;t a|!a;t b|a|!b;t a>b", "q abcdefghij;t a;t b>j;t i&j;p a");
        due("broken 1", 4, x.broken(0, 1));
        due("broken 3", 0, x.broken(0, 3));
        due("broken -1", BAD, x.broken(0, -1));
        due("broken 4", BAD, x.broken(0, 4));
        due("broken 0", 5, x.broken(1, 0));
        due("broken 2", 7, x.broken(1, 2));
        due("broken 769", 0, x.broken(1, 769));
        due("broken 1023", 0, x.broken(1, 1023));
        due("broken 1024", BAD, x.broken(1, 1024));
        due("broken of none", BAD, x.broken(2, 0));
    }

    private static void stands() {
        promise = 7;
        DoorBench x = with(AND, "q abcdefghij;t a=j;t b=!i");
        due("stands nothing", 1, x.stands(0, 0, 0));
        due("stands", 1, x.stands(0, 3, 0));
        due("stands", 0, x.stands(0, 3, 4));
        due("stands", 0, x.stands(0, 4, 1));
        due("stands", 1, x.stands(0, 0, 7));
        due("stands both", BAD, x.stands(0, 1, 1));
        due("stands 8", BAD, x.stands(0, 8, 0));
        due("stands -1", BAD, x.stands(0, -1, 0));
        due("stands", BAD, x.stands(0, 0, 8));
        due("stands", BAD, x.stands(0, 0, -1));
        due("stands of none", BAD, x.stands(2, 0, 0));
        due("stands", 0, x.stands(1, 1, 512));
        due("stands", 1, x.stands(1, 1 + 512 + 2, 256));
        due("stands", 0, x.stands(1, 1 + 512 + 2 + 256, 0));
    }

    private static void forced() {
        promise = 8;
        DoorBench x = with(AND, "q abcd;t a;t b>c");
        due("forced a by c", 1, x.forced(0, 4, 0, 0));
        due("forced c by no a", 0, x.forced(0, 0, 1, 2));
        due("forced c by a", -2, x.forced(0, 1, 0, 2));
        due("forced c by a, b", 1, x.forced(0, 3, 0, 2));
        due("forced told itself", 1, x.forced(0, 1, 0, 0));
        due("forced told itself", 0, x.forced(0, 0, 1, 0));
        due("forced, can't stand", -3, x.forced(0, 3, 4, 0));
        due("forced by nothing", 1, x.forced(1, 0, 0, 0));
        due("forced no b by no c", 0, x.forced(1, 0, 4, 1));
        due("forced d", NOT, x.forced(1, 6, 0, 3));
        due("forced question 3", BAD, x.forced(0, 0, 0, 3));
        due("forced question -1", BAD, x.forced(0, 0, 0, -1));
        due("forced both", BAD, x.forced(0, 3, 6, 0));
        due("forced 8", BAD, x.forced(0, 8, 0, 0));
        due("forced of none", BAD, x.forced(2, 0, 0, 0));
    }

    private static void why() {
        promise = 9;
        DoorBench x = with(AND, "q abc;t a=b;t b=c", "q abcd;t !d;t a=b", "q abcdefghij;t 9{a,b,c,d,e,f,g,h,i,j}");
        due("why", 4 * 1024 + 3, x.why(0, 3, 4));
        due("why", 1024 + 4, x.why(0, 4, 3));
        due("why they can", NOT, x.why(0, 3, 0));
        due("why nothing", NOT, x.why(0, 0, 0));
        // Two parts of two: no b and yes a; no c and yes a.
        due("why", 2 * 1024 + 1, x.why(1, 1, 6));
        // The no ones count most: yes b, c and no a.
        due("why", 1024 + 2, x.why(1, 6, 1));
        // One is fewer than two, though its bits are more.
        due("why", 8, x.why(2, 9, 2));
        due("why", 3 * 1024, x.why(3, 0, 1023));
        due("why", (512 + 1) * 1024, x.why(3, 510, 513));
        due("why both", BAD, x.why(0, 1, 1));
        due("why 8", BAD, x.why(0, 8, 0));
        due("why of none", BAD, x.why(4, 0, 0));
    }

    // ---- 10 to 17

    private static void judge() {
        promise = 10;
        DoorBench x = with(AND);
        due("judge weight 0", BAD, x.judge(0, 0, 0, 0));
        due("judge weight 10", BAD, x.judge(0, 10, 0, 0));
        due("judge both", BAD, x.judge(0, 1, 1, 1));
        due("judge 8", BAD, x.judge(0, 1, 8, 0));
        due("judge -1", BAD, x.judge(0, 1, 0, -1));
        due("judge of none", BAD, x.judge(1, 1, 0, 0));
        due("judge that can't", NOT, x.judge(0, 1, 3, 4));
        due("judge weight first", BAD, x.judge(0, 0, 3, 4));
        for (int j = 0; j < 9; j++) due("judge", j, x.judge(0, 9 - j, 3, 0));
        due("judge", FULL, x.judge(0, 1, 3, 0));
        due("judge that can't, of ten", NOT, x.judge(0, 1, 3, 4));
        due("judge that is wrong, of ten", BAD, x.judge(0, 1, 3, 1));
        due("of 5", 9, x.of(0, 5));
        due("ofJudge weight", 1, x.ofJudge(0, 8, 0));
    }

    private static void change() {
        promise = 11;
        DoorBench x = firstBench();
        due("change", 1, x.change(0, 0, 0, 1));
        due("yes", 0, x.ofJudge(0, 0, 1));
        due("no", 1, x.ofJudge(0, 0, 2));
        due("weight", 1, x.ofJudge(0, 0, 0));
        due("votes for a", 1, x.votes(0, 0, 0));
        due("votes against a", 2, x.votes(0, 0, 1));
        due("change that can't", NOT, x.change(0, 0, 4, 1));
        due("change both", BAD, x.change(0, 0, 1, 1));
        due("change 8", BAD, x.change(0, 0, 8, 0));
        due("change judge 3", BAD, x.change(0, 3, 0, 0));
        due("change judge -1", BAD, x.change(0, -1, 0, 0));
        due("change of none", BAD, x.change(1, 0, 0, 0));
        due("no", 1, x.ofJudge(0, 0, 2));
        due("change to silence", 1, x.change(0, 0, 0, 0));
        due("no", 0, x.ofJudge(0, 0, 2));
    }

    private static void read() {
        promise = 12;
        DoorBench x = firstBench();
        x.way(0, 0, 0);
        x.row(0, 4, 4);
        x.put(0, 0, 1);
        x.put(0, 1, -1);
        x.put(0, 2, 256);
        due("read whole", 3, x.read(0, 1, 0, 0));
        due("yes", 7, x.ofJudge(0, 1, 1));
        due("no", 0, x.ofJudge(0, 1, 2));
        // From 1 on: yes, yes, no; that can't stand, and the judge keeps its answers.
        due("read that can't", NOT, x.read(0, 1, 0, 1));
        due("yes", 7, x.ofJudge(0, 1, 1));
        due("read two", 2, x.read(0, 1, 0, 2));
        due("yes", 1, x.ofJudge(0, 1, 1));
        due("no", 2, x.ofJudge(0, 1, 2));
        due("read one", 1, x.read(0, 1, 0, 3));
        due("no", 1, x.ofJudge(0, 1, 2));
        due("read at the end", 0, x.read(0, 1, 0, 4));
        due("no", 0, x.ofJudge(0, 1, 2));
        x.change(0, 1, 7, 0);
        due("read ahead of it", 0, x.read(0, 1, 0, -1));
        due("yes", 0, x.ofJudge(0, 1, 1));
        due("read far behind", 0, x.read(0, 1, 0, Integer.MAX_VALUE));
        due("read far ahead", 0, x.read(0, 1, 0, Integer.MIN_VALUE));
        x.change(0, 1, 7, 0);
        due("read from an empty shelf", 0, x.read(0, 1, 1, 0));
        due("yes", 0, x.ofJudge(0, 1, 1));
        x.row(2, 2, 5);
        due("read from ints", -12, x.read(0, 1, 2, 0));
        x.keep(2, 0);
        due("read from a way", -12, x.read(0, 1, 2, 0));
        due("read shelf 6", BAD, x.read(0, 1, 6, 0));
        due("read shelf -1", BAD, x.read(0, 1, -1, 0));
        due("read judge 3", BAD, x.read(0, 3, 2, 0));
        due("read of none", BAD, x.read(1, 0, 2, 0));
        due("votes", 1, x.votes(0, 0, 0));
    }

    private static void clear() {
        promise = 13;
        DoorBench x = with(AND, AND);
        due("clear of none", BAD, x.clear(2));
        due("clear -1", BAD, x.clear(-1));
        due("clear", 0, x.clear(0));
        x.judge(0, 2, 7, 0);
        x.judge(0, 3, 0, 7);
        x.judge(1, 4, 7, 0);
        due("clear", 2, x.clear(0));
        due("clear", 0, x.clear(0));
        due("of 5", 1, x.of(1, 5));
        due("votes", 0, x.votes(0, 0, 0));
        due("votes", 0, x.votes(0, 0, 1));
        due("ofJudge", BAD, x.ofJudge(0, 0, 0));
        due("judge", 0, x.judge(0, 5, 1, 0));
        due("votes", 5, x.votes(0, 0, 0));
        x.way(1, 0, 0);
        due("outcome", 1, x.outcome(0, 0, 0));
        due("outcome", 0, x.outcome(0, 0, 1));
    }

    private static void ofJudge() {
        promise = 14;
        DoorBench x = with(AND);
        x.judge(0, 9, 1, 6);
        x.judge(0, 1, 0, 0);
        due("weight", 9, x.ofJudge(0, 0, 0));
        due("yes", 1, x.ofJudge(0, 0, 1));
        due("no", 6, x.ofJudge(0, 0, 2));
        due("silent", 0, x.ofJudge(0, 1, 1));
        due("what 3", BAD, x.ofJudge(0, 0, 3));
        due("what -1", BAD, x.ofJudge(0, 0, -1));
        due("judge 2", BAD, x.ofJudge(0, 2, 0));
        due("judge -1", BAD, x.ofJudge(0, -1, 0));
        due("of none", BAD, x.ofJudge(1, 0, 0));
    }

    private static void votes() {
        promise = 15;
        DoorBench x = with(AND);
        due("votes", 0, x.votes(0, 2, 1));
        x.judge(0, 9, 1, 4);
        x.judge(0, 4, 3, 0);
        x.judge(0, 2, 0, 1);
        due("for a", 13, x.votes(0, 0, 0));
        due("against a", 2, x.votes(0, 0, 1));
        due("for b", 4, x.votes(0, 1, 0));
        due("against b", 0, x.votes(0, 1, 1));
        due("against c", 9, x.votes(0, 2, 1));
        due("question 3", BAD, x.votes(0, 3, 0));
        due("question -1", BAD, x.votes(0, -1, 0));
        due("what 2", BAD, x.votes(0, 0, 2));
        due("what -1", BAD, x.votes(0, 0, -1));
        due("of none", BAD, x.votes(1, 0, 0));
    }

    private static void far() {
        promise = 16;
        DoorBench x = with(AND);
        due("far, no judges", 0, x.far(0, 5));
        x.judge(0, 9, 1, 4);
        x.judge(0, 4, 3, 0);
        x.judge(0, 2, 0, 7);
        // 0: a is 9 + 4, b is 4.
        due("far 0", 17, x.far(0, 0));
        due("far 7", 9 + 6, x.far(0, 7));
        // Sets need not be lawful.
        due("far 3", 4, x.far(0, 3));
        due("far 4", 18 + 8 + 2, x.far(0, 4));
        due("far 8", BAD, x.far(0, 8));
        due("far -1", BAD, x.far(0, -1));
        due("far of none", BAD, x.far(1, 0));
    }

    private static void nearest() {
        promise = 17;
        DoorBench x = with(AND);
        due("all are", 4, x.nearest(0, -1));
        due("the last", 7, x.nearest(0, 3));
        due("behind it", BAD, x.nearest(0, 4));
        x.judge(0, 1, 7, 0);
        due("one is", 1, x.nearest(0, -1));
        due("it", 7, x.nearest(0, 0));
        due("behind it", BAD, x.nearest(0, 1));
        x.judge(0, 1, 1, 6);
        x.judge(0, 1, 2, 5);
        // Far: 0 has 5, the others have 4.
        due("three are", 3, x.nearest(0, -1));
        due("first", 1, x.nearest(0, 0));
        due("second", 2, x.nearest(0, 1));
        due("third", 7, x.nearest(0, 2));
        due("-2", BAD, x.nearest(0, -2));
        due("of none", BAD, x.nearest(1, -1));
    }

    // ---- 18 to 20

    private static void way() {
        promise = 18;
        DoorBench x = new DoorBench();
        due("kind -1", BAD, x.way(-1, 0, 0));
        due("kind 8", BAD, x.way(8, 0, 0));
        due("turns by 10", BAD, x.way(5, 10, 0));
        due("turns by -1", BAD, x.way(5, -1, 0));
        due("chair by 10", BAD, x.way(6, 10, 0));
        due("chair 9", BAD, x.way(6, 0, 9));
        due("chair -1", BAD, x.way(6, 0, -1));
        due("leader 9", BAD, x.way(7, 0, 9));
        due("count", 0, x.count(1));
        due("turns, c doesn't matter", 0, x.way(5, 9, 99));
        due("leader, s doesn't matter", 1, x.way(7, -5, 8));
        due("chair", 2, x.way(6, 9, 8));
        for (int way = 3; way < 20; way++) due("way", way, x.way(way % 5, -1, 77));
        due("the 21st", FULL, x.way(0, 0, 0));
        due("the 21st, wrong", BAD, x.way(6, 0, 9));
        due("ofWay", BAD, x.ofWay(20, 0));
        due("count", 20, x.count(1));
    }

    private static void ofWay() {
        promise = 19;
        DoorBench x = new DoorBench();
        x.way(1, 3, 4);
        x.way(5, 3, 4);
        x.way(6, 3, 4);
        x.way(7, 3, 4);
        int[][] want = {{1, 0, 0}, {5, 3, 0}, {6, 3, 4}, {7, 0, 4}};
        for (int way = 0; way < 4; way++) {
            for (int what = 0; what < 3; what++) due("ofWay " + way + " " + what, want[way][what], x.ofWay(way, what));
        }
        due("what 3", BAD, x.ofWay(0, 3));
        due("what -1", BAD, x.ofWay(0, -1));
        due("way 4", BAD, x.ofWay(4, 0));
        due("way -1", BAD, x.ofWay(-1, 0));
    }

    private static void dueOutcome(DoorBench x, int way, int agenda, int yes, int no) {
        int all = (1 << x.of(agenda, 0)) - 1;
        due("outcome yes of way " + way, yes, x.outcome(way, agenda, 0));
        due("outcome no of way " + way, no, x.outcome(way, agenda, 1));
        due("outcome open of way " + way, all & ~yes & ~no, x.outcome(way, agenda, 2));
        due("outcome unlawful of way " + way, 1 - x.stands(agenda, yes, no), x.outcome(way, agenda, 4));
    }

    private static void outcomeOnFirst() {
        promise = 20;
        DoorBench x = firstBench();
        allKinds(x, 1, 1);
        dueOutcome(x, 0, 0, 0, 0);
        dueOutcome(x, 1, 0, 3, 4);
        due("breaks", 1, x.outcome(1, 0, 3));
        due("unlawful", 1, x.outcome(1, 0, 4));
        dueOutcome(x, 2, 0, 7, 0);
        // No c: 0, 1 and 2 have it, far 5, 4 and 4.
        dueOutcome(x, 3, 0, 1, 6);
        dueOutcome(x, 4, 0, 1, 6);
        // b, c, a: yes, no, and no is forced.
        dueOutcome(x, 5, 0, 2, 5);
        dueOutcome(x, 6, 0, 2, 5);
        dueOutcome(x, 7, 0, 1, 6);
        due("what 5", BAD, x.outcome(1, 0, 5));
        due("what -1", BAD, x.outcome(1, 0, -1));
        due("way 8", BAD, x.outcome(8, 0, 0));
        due("way -1", BAD, x.outcome(-1, 0, 0));
        due("of none", BAD, x.outcome(1, 1, 0));
    }

    private static void outcomeOpen() {
        promise = 20;
        DoorBench x = with(AND, "q abc;p ab;e c;t a=b;t c", "q abc;p ab;e bc;t !(a&b);t b=c");
        allKinds(x, 0, 3);
        // Without judges: by heads all is open; c is forced by nothing in agenda 1.
        dueOutcome(x, 1, 0, 0, 0);
        dueOutcome(x, 2, 0, 0, 0);
        dueOutcome(x, 2, 1, 4, 0);
        dueOutcome(x, 3, 0, 0, 3);
        dueOutcome(x, 3, 1, 0, 3);
        dueOutcome(x, 4, 0, 0, 7);
        dueOutcome(x, 4, 1, 4, 3);
        dueOutcome(x, 5, 1, 4, 3);
        dueOutcome(x, 6, 0, 0, 7);
        dueOutcome(x, 7, 0, 0, 0);
        // A premise that heads leave open stays open, though the other one forces it.
        x.judge(1, 1, 1, 0);
        dueOutcome(x, 2, 1, 5, 0);
        // Premises a and b both yes: they can't stand, and the others are open.
        x.judge(2, 2, 1, 0);
        x.judge(2, 2, 2, 0);
        dueOutcome(x, 2, 2, 3, 0);
        due("breaks", 1, x.outcome(2, 2, 3));
        // Ends b yes, c no: no lawful set has these.
        x.judge(2, 1, 0, 4);
        dueOutcome(x, 3, 2, 2, 4);
        due("breaks", 2, x.outcome(3, 2, 3));
        due("unlawful", 1, x.outcome(3, 2, 4));
    }

    private static void outcomeTurns() {
        promise = 20;
        DoorBench x = with("q abcd;t !(a&b);t !(b&c);t !(c&d);t !(a&d)");
        for (int s = 0; s < 10; s++) x.way(5, s, 0);
        x.way(6, 0, 0);
        x.way(6, 1, 0);
        x.way(6, 1, 8);
        x.judge(0, 1, 5, 0);
        x.judge(0, 1, 10, 0);
        // Nobody says no: whoever comes first is yes, and the next after the next.
        for (int s = 0; s < 10; s++) dueOutcome(x, s, 0, s % 2 == 0 ? 5 : 10, s % 2 == 0 ? 10 : 5);
        // Now a and c are open: as no, which leaves b; as the chair says, if it comes first.
        x.judge(0, 1, 0, 5);
        dueOutcome(x, 0, 0, 10, 5);
        dueOutcome(x, 1, 0, 10, 5);
        dueOutcome(x, 10, 0, 5, 10);
        dueOutcome(x, 11, 0, 10, 5);
        x.change(0, 1, 0, 10);
        // b and d are no by heads: then the chair is asked, or there is none such.
        dueOutcome(x, 11, 0, 5, 10);
        dueOutcome(x, 12, 0, 0, 15);
        x.change(0, 0, 0, 0);
        dueOutcome(x, 11, 0, 0, 15);
    }

    private static void outcomeLeader() {
        promise = 20;
        DoorBench x = with(AND);
        x.way(7, 0, 1);
        x.judge(0, 9, 7, 0);
        dueOutcome(x, 0, 0, 0, 0);
        x.judge(0, 1, 0, 1);
        // No a forces no c; b is open.
        dueOutcome(x, 0, 0, 0, 5);
        x.change(0, 1, 4, 0);
        dueOutcome(x, 0, 0, 7, 0);
        x.change(0, 1, 0, 0);
        dueOutcome(x, 0, 0, 0, 0);
    }

    private static void outcomeTies() {
        promise = 20;
        DoorBench x = with("q abcd;t a>b;t b>c;t a>c;t 1{a,b,c,d}", "q abcdefghij;t !2{a,i,j};t j=a|!i;t b");
        x.way(1, 0, 0);
        due("no judge breaks a tie", 0, x.outcome(0, 0, 3));
        // a yes, c no, b and d open: tie 2 fails however b is answered, ties 0 and 1 each need not.
        x.judge(0, 2, 1, 0);
        x.judge(0, 1, 0, 7);
        x.judge(0, 1, 6, 0);
        x.judge(0, 1, 8, 4);
        x.judge(0, 1, 0, 8);
        dueOutcome(x, 0, 0, 1, 4);
        due("breaks", 4, x.outcome(0, 0, 3));
        due("unlawful", 1, x.outcome(0, 0, 4));
        // b no as well: then tie 0 fails too.
        x.judge(0, 1, 0, 2);
        dueOutcome(x, 0, 0, 1, 6);
        due("breaks", 5, x.outcome(0, 0, 3));
        // a, b, c no and d open breaks none; all no: only the last one.
        x.clear(0);
        x.judge(0, 1, 8, 7);
        x.judge(0, 1, 4, 11);
        x.judge(0, 1, 0, 3);
        x.judge(0, 1, 0, 4);
        dueOutcome(x, 0, 0, 0, 7);
        due("breaks", 0, x.outcome(0, 0, 3));
        x.judge(0, 1, 0, 8);
        dueOutcome(x, 0, 0, 0, 15);
        due("breaks", 8, x.outcome(0, 0, 3));
        // High questions: i yes and j yes breaks tie 0, and tie 1 unless a is yes, which is open.
        x.judge(1, 1, 256, 1);
        x.judge(1, 1, 512, 256);
        x.judge(1, 1, 512 + 2, 1);
        x.judge(1, 1, 256, 0);
        due("outcome", 512 + 256 + 2, x.outcome(0, 1, 0));
        due("outcome", 1, x.outcome(0, 1, 1));
        due("breaks", 3, x.outcome(0, 1, 3));
        due("judge that can't", NOT, x.judge(1, 1, 512 + 256, 0));
    }

    // ---- 21 to 26

    private static void benches() {
        promise = 21;
        DoorBench x = with(AND, "q abcd;t 1{a,b,c};t !(a&b&c)", "q abcd;t a|b", "q abcd;t a|b|c|d;t !(a&b&c);t !(d&a&b)");
        int[] of4 = {4, 10, 20, 35, 56}, of12 = {12, 78, 364, 1365, 4368};
        for (int n = 1; n <= 5; n++) {
            due("benches of 4, " + n, of4[n - 1], x.benches(0, n));
            due("benches of 12, " + n, of12[n - 1], x.benches(1, n));
            due("benches of 2, " + n, n + 1, with("q a").benches(0, n));
        }
        due("n 0", BAD, x.benches(0, 0));
        due("n 6", BAD, x.benches(0, 6));
        due("of none", BAD, x.benches(4, 1));
        due("12 sets", 12, x.of(2, 4));
        due("of 12", 12, x.benches(2, 1));
        due("13 lawful", BIG, with("q abcd;t 1{a,b,c,d};t !3{a,b,c}").benches(0, 1));
        due("13 lawful, n 6", BAD, with("q abcd").benches(0, 6));
    }

    private static void unlawful() {
        promise = 22;
        DoorBench x = with(AND, "q abcd");
        allKinds(x, 0, 0);
        due("heads", 1, x.unlawful(1, 0, 3, 0));
        // Lawful numbers 1, 2 and 3.
        due("heads, first", 1 + 2 * 16 + 3 * 256, x.unlawful(1, 0, 3, 1));
        due("heads of 1", 0, x.unlawful(1, 0, 1, 0));
        due("heads of 2", NOT, x.unlawful(1, 0, 2, 1));
        for (int way = 0; way < 8; way++) if (way != 1) due("way " + way, 0, x.unlawful(way, 0, 3, 0));
        due("way 0, first", NOT, x.unlawful(0, 0, 5, 1));
        // Sets 0, 1, 2, 7, 7: three say a, three say b, two say c.
        due("heads of 5, first", 0 + 1 * 16 + 2 * 256 + 3 * 4096 + 3 * 65536, x.unlawful(1, 0, 5, 1));
        due("what 2", BAD, x.unlawful(1, 0, 3, 2));
        due("what -1", BAD, x.unlawful(1, 0, 3, -1));
        due("n 0", BAD, x.unlawful(1, 0, 0, 0));
        due("n 6", BAD, x.unlawful(1, 0, 6, 0));
        due("way 8", BAD, x.unlawful(8, 0, 3, 0));
        due("of none", BAD, x.unlawful(1, 2, 3, 0));
        due("16 sets", BIG, x.unlawful(1, 1, 3, 0));
        due("16 sets, n 6", BAD, x.unlawful(1, 1, 6, 0));
        due("16 sets, what 2", BAD, x.unlawful(1, 1, 3, 2));
        x.judge(0, 1, 7, 0);
        due("told judges don't matter", 1, x.unlawful(1, 0, 3, 0));
        due("and stay", 7, x.outcome(1, 0, 0));
    }

    private static void unlike() {
        promise = 23;
        DoorBench x = with(AND, "q abcd");
        allKinds(x, 0, 0);
        x.way(6, 0, 1);
        due("premises, ends", 1, x.unlike(2, 3, 0, 3, 0));
        due("premises, ends, first", 801, x.unlike(2, 3, 0, 3, 1));
        due("a way and itself", 0, x.unlike(1, 1, 0, 5, 0));
        due("a way and itself, first", NOT, x.unlike(1, 1, 0, 5, 1));
        due("all open, heads", 0, x.unlike(0, 1, 0, 1, 1));
        due("all open, heads", 4, x.unlike(0, 1, 0, 1, 0));
        // Of two judges the chair is asked: at 0 and 1 about a, and so on; as judge 0, or as judge 1.
        due("chairs", 1 * 16, x.unlike(6, 8, 0, 2, 1));
        due("chairs", 6, x.unlike(6, 8, 0, 2, 0));
        due("chairs of three", 0, x.unlike(6, 8, 0, 3, 0));
        due("what 2", BAD, x.unlike(1, 2, 0, 3, 2));
        due("way 9", BAD, x.unlike(9, 2, 0, 3, 0));
        due("other 9", BAD, x.unlike(1, 9, 0, 3, 0));
        due("n 0", BAD, x.unlike(1, 2, 0, 0, 0));
        due("n 6", BAD, x.unlike(1, 2, 0, 6, 0));
        due("of none", BAD, x.unlike(1, 2, 2, 1, 0));
        due("16 sets", BIG, x.unlike(1, 2, 1, 1, 0));
        due("16 sets, other 9", BAD, x.unlike(1, 9, 1, 1, 0));
    }

    private static void sway() {
        promise = 24;
        DoorBench x = with(AND, "q abcd");
        allKinds(x, 0, 0);
        // Heads: c is yes with two of 7 and any: 4 benches. Premises: that, and 1, 2, 7.
        due("heads on c", 4, x.sway(1, 0, 3, 2));
        due("premises on c", 5, x.sway(2, 0, 3, 2));
        due("nobody", 0, x.sway(0, 0, 3, 0));
        due("one judge on a", 2, x.sway(1, 0, 1, 0));
        due("two judges on a", 3, x.sway(1, 0, 2, 0));
        due("question 3", BAD, x.sway(1, 0, 3, 3));
        due("question -1", BAD, x.sway(1, 0, 3, -1));
        due("way 8", BAD, x.sway(8, 0, 3, 0));
        due("n 6", BAD, x.sway(1, 0, 6, 0));
        due("of none", BAD, x.sway(1, 2, 3, 0));
        due("16 sets", BIG, x.sway(1, 1, 3, 0));
        due("16 sets, question 4", BAD, x.sway(1, 1, 3, 4));
    }

    private static void twist() {
        promise = 25;
        DoorBench x = with("q abcd;p ab;e cd;t c=a&b;t d=c", "q abc;t 1{a,b,c};t !2{a,b,c}");
        allKinds(x, 0, 2);
        x.judge(0, 1, 15, 0);
        x.judge(0, 1, 1, 14);
        x.judge(0, 1, 2, 13);
        // All is yes by premises, and a alone is three apart; with 0 told b alone is yes: two apart. So with 2.
        due("premises, judge 1", 0, x.twist(2, 0, 1));
        due("premises, judge 2", 0, x.twist(2, 0, 2));
        due("premises, judge 0", NOT, x.twist(2, 0, 0));
        due("turns, judge 1", 0, x.twist(5, 0, 1));
        due("chair, judge 2", 0, x.twist(6, 0, 2));
        for (int j = 0; j < 3; j++) due("all open", NOT, x.twist(0, 0, j));
        for (int j = 0; j < 3; j++) due("heads", NOT, x.twist(1, 0, j));
        // The leader is 2: it has its own set, nobody else can do anything.
        for (int j = 0; j < 3; j++) due("leader", NOT, x.twist(7, 0, j));
        due("answers are as before", 1, x.ofJudge(0, 1, 1));
        due("answers are as before", 14, x.ofJudge(0, 1, 2));
        due("votes are as before", 2, x.votes(0, 0, 0));
        due("outcome as before", 15, x.outcome(2, 0, 0));
        x.judge(0, 1, 1, 0);
        due("silent on some", BAD, x.twist(1, 0, 3));
        due("judge 4", BAD, x.twist(1, 0, 4));
        due("judge -1", BAD, x.twist(1, 0, -1));
        due("way 8", BAD, x.twist(8, 0, 0));
        due("of none", BAD, x.twist(1, 2, 0));
    }

    private static void twisted() {
        promise = 26;
        DoorBench x = with(AND, "q abcd");
        allKinds(x, 0, 0);
        due("heads of 3", 0, x.twisted(1, 0, 3));
        due("heads of 5", 0, x.twisted(1, 0, 5));
        due("leader of 5", 0, x.twisted(7, 0, 5));
        due("premises of 1", 0, x.twisted(2, 0, 1));
        due("premises of 3", 0, x.twisted(2, 0, 3));
        // 1 and 2: all is open, three apart; with 0 in place of 1 no a is had, and by that no c: two apart.
        due("premises of 2", 1, x.twisted(2, 0, 2));
        due("agenda", 2, tell(x, "q abcd;p ab;e cd;t c=a&b;t d=c"));
        due("premises of 3", 1, x.twisted(2, 2, 3));
        due("near of 3", 0, x.twisted(4, 2, 3));
        due("turns of 3", 1, x.twisted(5, 2, 3));
        due("chair of 4", 2, x.twisted(6, 2, 4));
        due("n 0", BAD, x.twisted(1, 0, 0));
        due("n 6", BAD, x.twisted(1, 0, 6));
        due("way 8", BAD, x.twisted(8, 0, 1));
        due("of none", BAD, x.twisted(1, 3, 1));
        due("16 sets", BIG, x.twisted(1, 1, 1));
        due("16 sets, n 6", BAD, x.twisted(1, 1, 6));
    }

    // ---- 27 to 30

    private static void breach() {
        promise = 27;
        DoorBench x = with(AND, "q abc;t a|b|c", "q abc;t 1{a,b,c};t !(a&b&c)", "q a;t a");
        allKinds(x, 0, 1);
        // Rows in base 4; 1, 2, 3 is 16 + 8 + 3.
        due("heads, lawful", 27, x.breach(1, 0, 3, 3));
        due("heads, own", NOT, x.breach(1, 0, 3, 1));
        due("heads, alike", NOT, x.breach(1, 0, 3, 0));
        due("heads, mind", NOT, x.breach(1, 0, 3, 2));
        due("heads, nobody", NOT, x.breach(1, 0, 3, 4));
        due("heads of 1, nobody", 0, x.breach(1, 0, 1, 4));
        due("all open, mind", 0, x.breach(0, 0, 3, 2));
        due("all open, the others", NOT, x.breach(0, 0, 3, 1));
        // Leader 1: row 0, 1 is unlike 1, 0 in order, which is row 4.
        due("leader, alike", 4, x.breach(7, 0, 2, 0));
        due("leader, nobody", 1, x.breach(7, 0, 2, 4));
        due("leader who isn't there", NOT, x.breach(7, 0, 1, 4));
        due("leader who isn't there, mind", 0, x.breach(7, 0, 1, 2));
        // Chair 1 of two: 0, 1 gives a, and 1, 0 not: row 1 is in order, row 4 is its like.
        due("chair, alike", 4, x.breach(6, 0, 2, 0));
        due("premises, own", 27, x.breach(2, 0, 3, 1));
        due("one set only: judge 0", 0, x.breach(1, 3, 3, 4));
        due("law 5", BAD, x.breach(1, 0, 3, 5));
        due("law -1", BAD, x.breach(1, 0, 3, -1));
        due("n 4", BAD, x.breach(1, 0, 4, 0));
        due("n 0", BAD, x.breach(1, 0, 0, 0));
        due("way 8", BAD, x.breach(8, 0, 1, 0));
        due("of none", BAD, x.breach(1, 4, 1, 0));
        due("7 sets", BIG, x.breach(1, 1, 1, 0));
        due("7 sets, law 5", BAD, x.breach(1, 1, 1, 5));
        due("6 sets", NOT, x.breach(1, 2, 2, 0));
    }

    private static void keeper() {
        promise = 28;
        DoorBench x = with(AND, "q abc;t a|b|c");
        due("no ways", NOT, x.keeper(0, 3, 1));
        allKinds(x, 0, 1);
        due("alike", 0, x.keeper(0, 3, 1));
        due("mind", 1, x.keeper(0, 3, 4));
        due("mind, lawful", 2, x.keeper(0, 3, 12));
        due("own, mind, lawful", 7, x.keeper(0, 3, 14));
        due("all but somebody", NOT, x.keeper(0, 3, 30));
        due("nothing but nobody", 0, x.keeper(0, 1, 16));
        due("all of 1", NOT, x.keeper(0, 1, 31));
        due("laws 0", BAD, x.keeper(0, 3, 0));
        due("laws 32", BAD, x.keeper(0, 3, 32));
        due("n 4", BAD, x.keeper(0, 4, 1));
        due("n 0", BAD, x.keeper(0, 0, 1));
        due("of none", BAD, x.keeper(2, 3, 1));
        due("7 sets", BIG, x.keeper(1, 3, 1));
        due("7 sets, laws 0", BAD, x.keeper(1, 3, 0));
    }

    private static void dueMend(DoorBench x, int agenda, int n, int many, int which, int rivals) {
        due("mend " + agenda + " by " + n, many, x.mend(agenda, n, 0));
        due("mend which " + agenda + " by " + n, which, x.mend(agenda, n, 1));
        due("mend rivals " + agenda + " by " + n, rivals, x.mend(agenda, n, 2));
    }

    private static void mend() {
        promise = 29;
        DoorBench x = with(AND, "q abc;t c=a&b;t a|c", "q abcd;t d=a&b&c", "q abc;t 1{a,b,c};t 2{a,b,c};t !3{a,b,c}",
            "q abcd;t a=b;t 1{a,c,d}", "q abcd");
        dueMend(x, 0, 1, 0, 0, 1);
        dueMend(x, 0, 2, 0, 0, 1);
        dueMend(x, 0, 3, 1, 1, 1);
        dueMend(x, 0, 5, 1, 1, 1);
        // Of four judges two to two is open: 0, 1, 2, 7 together decide only no c.
        dueMend(x, 0, 4, 0, 0, 1);
        // a, and c as b: no three of them have another majority.
        dueMend(x, 1, 3, 0, 0, 1);
        // Without its tie it has 16 sets.
        dueMend(x, 2, 3, NOT, NOT, NOT);
        // Two of three, not all: 3, 5 and 6, whose majority is 7; without the last tie it stands.
        dueMend(x, 3, 3, 1, 4, 1);
        // 1{a,c,d} drops: 8 sets, a as b. a=b drops: more than 12.
        dueMend(x, 4, 3, 1, 2, 1);
        dueMend(x, 5, 3, NOT, NOT, NOT);
        dueMend(x, 5, 1, NOT, NOT, NOT);
        due("what 3", BAD, x.mend(0, 3, 3));
        due("what -1", BAD, x.mend(0, 3, -1));
        due("n 0", BAD, x.mend(0, 0, 0));
        due("n 6", BAD, x.mend(0, 6, 0));
        due("of none", BAD, x.mend(6, 1, 0));
        DoorBench y = with("q abc;t !(a&b&c);t !(a&b&c)|a;t 1{a,b,c}", "q abcd;t !3{a,b,c};t a|b|c;t d");
        // Without ties 0 and 1 nothing keeps a, b, c from all being yes, but 1{a,b,c} can be broken too.
        dueMend(y, 0, 3, 2, 5, 1);
        // d stays; both others must go.
        dueMend(y, 1, 3, 2, 3, 1);
    }

    private static void mendOfFour() {
        promise = 29;
        String all = "{a,b,c,d}";
        DoorBench x = with("q abcd;t 3" + all + ";t !4" + all, "q abcd;t 1" + all + ";t !2" + all,
            "q abcde;t 3" + all + ";t a&b&c&d|(e=c&d);t !5{a,b,c,d,e};t 4" + all + ">e",
            "q abc;t c=a&b;t c=a&b;t c=a&b;t c=a&b;t c=a&b;t c=a&b;t c=a&b;t c=a&b",
            "q abcdefgh;t a&b&c&d&e;t h=f&g", "q abcdefghij;t 9{a,b,c,d,e,f,g,h,i,j};t !5{a,b,c,d,e,f,g,h,i}|j");
        // Three of four say each yes, and all yes is barred; without the other tie it has 15 sets.
        dueMend(x, 0, 4, 1, 2, 1);
        dueMend(x, 0, 2, 0, 0, 1);
        // Three of four say each no.
        dueMend(x, 1, 4, 1, 1, 1);
        // 7, 11, 29, 30: a to d are yes and e is open, so 15 and 31 help each alone; of three they are both reached.
        dueMend(x, 2, 4, 1, 4, 2);
        dueMend(x, 2, 3, 2, 12, 1);
        dueMend(x, 2, 5, 2, 12, 1);
        dueMend(x, 3, 5, 8, 255, 1);
        dueMend(x, 4, 3, 1, 2, 1);
        // Heads of four leave h open where f and g are both yes.
        dueMend(x, 4, 4, 0, 0, 1);
        // Two ties that bar 15 and one that bars 31: the one is fewer, though its bits are more.
        DoorBench y = with("q abcde;t 4" + all + ">e;t 4" + all + ">e;t 3" + all + ";t a&b&c&d|(e=c&d);t !5{a,b,c,d,e}");
        dueMend(y, 0, 4, 1, 16, 1);
        // All yes, or one of a to i no: all yes is the majority of each three, and of each four.
        due("ten sets", 10, x.of(5, 4));
        dueMend(x, 5, 3, 0, 0, 1);
        dueMend(x, 5, 4, 0, 0, 1);
    }

    /** More than 64 lawful sets, and questions behind the sixth. */
    private static void manySets() {
        promise = 20;
        DoorBench x = with("q abcdefg;t a|b;e fg;p ab", "q abcdefghij;t !(f&i);t !(g&j);e ij;p fg");
        allKinds(x, 5, 0);
        due("lawful", 96, x.of(0, 4));
        due("lawful", 576, x.of(1, 4));
        due("stands", 0, x.stands(0, 0, 3));
        due("forced a by no b", 1, x.forced(0, 0, 2, 0));
        due("forced g", NOT, x.forced(0, 0, 2, 6));
        due("forced no i by f", 0, x.forced(1, 32, 0, 8));
        due("why", (1 + 2) * 1024, x.why(0, 0, 127));
        // All no but a or b: a has less against it.
        x.judge(0, 2, 1, 126);
        x.judge(0, 3, 2, 125);
        x.judge(0, 1, 64, 0);
        x.judge(0, 5, 0, 1);
        x.judge(0, 4, 0, 2);
        dueOutcome(x, 1, 0, 0, 127);
        dueOutcome(x, 3, 0, 2, 125);
        dueOutcome(x, 4, 0, 2, 125);
        // f, g, a, b ..: no, no, no, and b is forced.
        dueOutcome(x, 5, 0, 2, 125);
        due("near", 1, x.nearest(0, -1));
        due("near", 2, x.nearest(0, 0));
        // f and i yes, g and j yes: i leads by more than f, g by more than j.
        x.judge(1, 3, 32 + 64, 256);
        x.judge(1, 4, 256, 0);
        x.judge(1, 5, 512, 0);
        x.judge(1, 9, 32, 0);
        x.judge(1, 8, 256, 32);
        x.judge(1, 2, 64, 512);
        x.judge(1, 2, 64, 0);
        due("for f", 12, x.votes(1, 5, 0));
        due("against f", 8, x.votes(1, 5, 1));
        due("for i", 12, x.votes(1, 8, 0));
        due("against i", 3, x.votes(1, 8, 1));
        due("for g", 7, x.votes(1, 6, 0));
        due("for j less against", 3, x.votes(1, 9, 0) - x.votes(1, 9, 1));
        due("heads", 32 + 64 + 256 + 512, x.outcome(1, 1, 0));
        due("heads break", 3, x.outcome(1, 1, 3));
        due("premises", 32 + 64, x.outcome(2, 1, 0));
        due("premises", 256 + 512, x.outcome(2, 1, 1));
        due("ends", 256 + 512, x.outcome(3, 1, 0));
        due("near", 64 + 256, x.outcome(4, 1, 0));
        due("turns from f", 32 + 64, x.outcome(5, 1, 0));
        // a to e and h are free.
        due("how many are near", 64, x.nearest(1, -1));
        due("one of them", 64 + 256 + 31, x.nearest(1, 31));
        due("the last of them", 64 + 256 + 128 + 31, x.nearest(1, 63));
        due("leader", 32 + 64, x.outcome(7, 1, 0));
        due("leader", 256 + 512, x.outcome(7, 1, 1));
    }

    private static void orders() {
        promise = 30;
        DoorBench x = firstBench();
        tell(x, "q abcdefg");
        tell(x, "q abcdef");
        // c is yes only if a and b come ahead of it.
        due("orders for c", 2, x.orders(0, 2, 0));
        due("first for c", 12, x.orders(0, 2, 1));
        // a is yes unless b and c come ahead of it.
        due("orders for a", 4, x.orders(0, 0, 0));
        due("first for b", 12, x.orders(0, 1, 1));
        due("no judges", 0, x.orders(2, 5, 0));
        due("no judges", NOT, x.orders(2, 5, 1));
        x.judge(2, 1, 32, 0);
        due("free questions", 720, x.orders(2, 5, 0));
        due("free questions", 12345, x.orders(2, 5, 1));
        due("seven", BIG, x.orders(1, 0, 0));
        due("seven, question 7", BAD, x.orders(1, 7, 0));
        due("question 3", BAD, x.orders(0, 3, 0));
        due("question -1", BAD, x.orders(0, -1, 0));
        due("what 2", BAD, x.orders(0, 0, 2));
        due("what -1", BAD, x.orders(0, 0, -1));
        due("of none", BAD, x.orders(3, 0, 0));
        // Not a, with b and no c: the first order is b, c, a.
        x.clear(0);
        x.judge(0, 1, 1, 6);
        x.judge(0, 1, 2, 5);
        x.judge(0, 1, 7, 0);
        due("first for a", 12, x.orders(0, 0, 1));
    }

    // ---- 31 to 39

    private static void dueAct(DoorBench x, int way, int act, int arg, int want, int... bodies) {
        due("act " + act + " of way " + way, want, x.act(way, act, arg));
        due("how many bodies", bodies.length, x.count(4));
        for (int i = 0; i < bodies.length; i++) due("body " + i, bodies[i], x.trace(i));
        due("behind the last", BAD, x.trace(bodies.length));
    }

    private static void act() {
        promise = 31;
        DoorBench x = new DoorBench();
        allKinds(x, 3, 4);
        dueAct(x, 0, 0, 9, 9, 1);
        dueAct(x, 0, 1, 9, 18, 10, 1);
        dueAct(x, 0, 2, 9, 9, 11);
        dueAct(x, 0, 3, 9, 17, 2, 10, 1, 11);
        dueAct(x, 1, 0, 9, 9, 20, 1);
        dueAct(x, 1, 1, 9, 18, 10, 20, 1);
        dueAct(x, 1, 3, 9, 18, 2, 10, 20, 1, 11);
        // Premises is 2: weighs (9 + 2 - 1) * 2 + (2 + 2 - 1).
        dueAct(x, 2, 1, 9, 23, 30, 10, 20, 1, 20, 1);
        dueAct(x, 2, 3, 9, 20, 2, 30, 10, 20, 1, 20, 1, 11);
        // Ends is 3: binds (9 ^ 3) * 3; tells (9 + 3 - 1) * 2 - (1 ^ 3) * 3.
        dueAct(x, 3, 2, 9, 30, 40, 11);
        dueAct(x, 3, 3, 9, 16, 2, 10, 20, 1, 40, 11);
        // Near is 4: counts (9 + 4) ^ 5.
        dueAct(x, 4, 0, 9, 8, 50, 1);
        dueAct(x, 4, 3, 9, 11, 2, 10, 50, 1, 11);
        // Turns is 5, its shift 3: weighs -28, tells -28 - 4 + 3.
        dueAct(x, 5, 1, 9, -28, 60, 10, 1);
        dueAct(x, 5, 3, 9, -29, 61, 2, 60, 10, 1, 11);
        // Chair is 6, its judge 4: binds (9 + 1) ^ 6; weighs -30 - 4; tells -34 - (2 ^ 6) + 3.
        dueAct(x, 6, 0, 9, 15, 1);
        dueAct(x, 6, 2, 9, 12, 70, 11);
        dueAct(x, 6, 1, 9, -34, 71, 60, 10, 1);
        dueAct(x, 6, 3, 9, -35, 61, 2, 71, 60, 10, 1, 70, 11);
        // Leader is 7: ((9 + 7) * 2 - (1 ^ 7)) * 2 - (9 ^ 7).
        dueAct(x, 7, 3, 9, 38, 80, 2, 10, 1, 11, 11);
        dueAct(x, 0, 1, Integer.MAX_VALUE, -2, 10, 1);
        dueAct(x, 1, 0, Integer.MIN_VALUE, Integer.MIN_VALUE, 20, 1);
        dueAct(x, 6, 2, Integer.MAX_VALUE, Integer.MIN_VALUE ^ 6, 70, 11);
        dueAct(x, 8, 0, 9, 0);
        x.act(0, 0, 0);
        dueAct(x, -1, 0, 9, 0);
        x.act(0, 0, 0);
        dueAct(x, 0, 4, 9, 0);
        x.act(0, 0, 0);
        dueAct(x, 0, -1, 9, 0);
    }

    private static void trace() {
        promise = 32;
        DoorBench x = new DoorBench();
        x.way(6, 0, 0);
        due("trace", BAD, x.trace(0));
        x.act(0, 3, 1);
        due("first", 61, x.trace(0));
        due("last", 11, x.trace(7));
        due("behind", BAD, x.trace(8));
        due("-1", BAD, x.trace(-1));
        due("24", BAD, x.trace(24));
        x.act(0, 0, 1);
        due("first of the next", 1, x.trace(0));
        due("behind", BAD, x.trace(1));
    }

    private static void keep() {
        promise = 33;
        DoorBench x = new DoorBench();
        x.way(5, 0, 0);
        due("keep", 1, x.keep(5, 0));
        due("taken", 5, x.taken(5, 5));
        due("keep way 1", BAD, x.keep(5, 1));
        due("keep way -2", BAD, x.keep(5, -2));
        due("still there", 5, x.taken(5, 5));
        due("shelf 6", BAD, x.keep(6, 0));
        due("shelf -1", BAD, x.keep(-1, -1));
        due("keep nothing", 1, x.keep(5, -1));
        due("taken", -11, x.taken(5, 5));
        x.row(5, 3, 3);
        due("keep nothing in place of a row", 1, x.keep(5, -1));
        due("put", -11, x.put(5, 0, 1));
        x.row(5, 3, 3);
        due("keep a way in place of a row", 1, x.keep(5, 0));
        due("put", -12, x.put(5, 0, 1));
    }

    private static void row() {
        promise = 34;
        DoorBench x = new DoorBench();
        x.way(0, 0, 0);
        due("row", 1, x.row(0, 3, 60));
        due("put", 1, x.put(0, 59, 7));
        due("put", -13, x.put(0, 60, 7));
        due("n 61", BAD, x.row(0, 3, 61));
        due("n -1", -14, x.row(0, 3, -1));
        due("sort 5", BAD, x.row(0, 5, -1));
        due("sort -1", BAD, x.row(0, -1, 1));
        due("shelf 6", BAD, x.row(6, 0, -1));
        due("shelf -1", BAD, x.row(-1, 0, 1));
        due("still there", 7, x.element(0, 59));
        due("row anew", 1, x.row(0, 3, 60));
        due("0 at first", 0, x.element(0, 59));
        due("row of none", 1, x.row(0, 0, 0));
        due("put", -13, x.put(0, 0, 1));
        x.keep(1, 0);
        due("row in place of a way", 1, x.row(1, 4, 1));
        due("taken", -12, x.taken(1, 0));
        due("false at first", 0, x.element(1, 0));
    }

    private static void put() {
        promise = 35;
        DoorBench x = new DoorBench();
        x.way(0, 0, 0);
        long v = 0x123456789abcdef0L;
        long[] want = {(byte) 0xf0, (short) 0xdef0, 0x9abcdef0, v, 1};
        for (int sort = 0; sort < 5; sort++) {
            x.row(sort, sort, 2);
            due("put", 1, x.put(sort, 1, v));
            due("element of sort " + sort, want[sort], x.element(sort, 1));
            due("beside it", 0, x.element(sort, 0));
            due("put", 1, x.put(sort, 1, Long.MIN_VALUE + 256));
        }
        due("byte", 0, x.element(0, 1));
        due("short", 256, x.element(1, 1));
        due("int", 256, x.element(2, 1));
        due("boolean", 1, x.element(4, 1));
        x.put(4, 1, 0);
        due("boolean", 0, x.element(4, 1));
        due("place 2", -13, x.put(0, 2, 1));
        due("place -1", -13, x.put(0, -1, 1));
        due("nothing there", -11, x.put(5, 0, 1));
        x.keep(5, 0);
        due("a way", -12, x.put(5, -1, 1));
        due("shelf 6", BAD, x.put(6, 0, 1));
        due("shelf -1", BAD, x.put(-1, 0, 1));
    }

    private static void element() {
        promise = 36;
        DoorBench x = new DoorBench();
        x.way(0, 0, 0);
        x.row(0, 3, 2);
        x.put(0, 0, Long.MAX_VALUE);
        due("element", Long.MAX_VALUE, x.element(0, 0));
        due("element", 0, x.element(0, 1));
        due("place 2", Long.MIN_VALUE, x.element(0, 2));
        due("place -1", Long.MIN_VALUE, x.element(0, -1));
        due("nothing there", Long.MIN_VALUE, x.element(1, 0));
        x.keep(1, 0);
        due("a way", Long.MIN_VALUE, x.element(1, 0));
        due("shelf 6", Long.MIN_VALUE, x.element(6, 0));
        due("shelf -1", Long.MIN_VALUE, x.element(-1, 0));
    }

    private static void shift() {
        promise = 37;
        DoorBench x = new DoorBench();
        x.way(0, 0, 0);
        x.row(0, 2, 5);
        for (int i = 0; i < 5; i++) x.put(0, i, 10 + i);
        due("shift up in one row", 3, x.shift(0, 0, 0, 1, 3));
        long[] up = {10, 10, 11, 12, 14};
        for (int i = 0; i < 5; i++) due("element " + i, up[i], x.element(0, i));
        due("shift down in one row", 4, x.shift(0, 1, 0, 0, 4));
        long[] down = {10, 11, 12, 14, 14};
        for (int i = 0; i < 5; i++) due("element " + i, down[i], x.element(0, i));
        x.row(1, 2, 3);
        due("shift to another", 2, x.shift(0, 2, 1, 1, 2));
        due("element", 12, x.element(1, 1));
        due("element", 14, x.element(1, 2));
        due("element", 0, x.element(1, 0));
        due("shift none, at the ends", 0, x.shift(0, 5, 1, 3, 0));
        due("behind the end", -13, x.shift(0, 6, 1, 0, 0));
        due("too many", -13, x.shift(0, 0, 1, 0, 4));
        due("too many", -13, x.shift(0, 4, 1, 0, 2));
        due("n -1", -13, x.shift(0, 0, 1, 0, -1));
        due("i -1", -13, x.shift(0, -1, 1, 0, 1));
        due("j -1", -13, x.shift(0, 0, 1, -1, 1));
        due("sums that wrap", -13, x.shift(0, 1, 1, 1, Integer.MAX_VALUE));
        due("places that wrap", -13, x.shift(0, Integer.MAX_VALUE, 1, 0, Integer.MAX_VALUE));
        x.row(2, 3, 5);
        due("unlike sorts", -12, x.shift(0, 0, 2, 0, 99));
        x.keep(3, 0);
        due("a way", -12, x.shift(3, 0, 0, 0, 1));
        due("to a way", -12, x.shift(0, 0, 3, 0, 1));
        due("two ways", -12, x.shift(3, 0, 3, 0, 0));
        due("nothing", -11, x.shift(4, 0, 3, 0, 1));
        due("to nothing", -11, x.shift(3, 0, 4, 0, 1));
        due("shelf 6", BAD, x.shift(6, 0, 4, 0, 1));
        due("to shelf 6", BAD, x.shift(4, 0, 6, 0, 1));
        due("shelf -1", BAD, x.shift(-1, 0, 0, 0, 1));
    }

    private static void taken() {
        promise = 38;
        DoorBench x = new DoorBench();
        allKinds(x, 0, 0);
        String[] under = {"0", "01", "012", "013", "04", "05", "056", "07"};
        for (int way = 0; way < 8; way++) {
            x.keep(0, way);
            for (int k = 0; k < 8; k++) {
                boolean is = under[way].indexOf('0' + k) >= 0;
                due("way " + way + " as " + k, is ? way : -12, x.taken(0, k));
            }
        }
        due("k 8", BAD, x.taken(0, 8));
        due("k -1", BAD, x.taken(1, -1));
        due("shelf 6", BAD, x.taken(6, 0));
        due("shelf -1", BAD, x.taken(-1, 0));
        due("nothing", -11, x.taken(1, 0));
        x.row(1, 0, 0);
        due("a row", -12, x.taken(1, 0));
    }

    private static void count() {
        promise = 39;
        DoorBench x = with(AND, "q a");
        x.way(6, 0, 0);
        x.judge(0, 1, 0, 0);
        x.judge(1, 1, 0, 0);
        x.judge(1, 1, 0, 0);
        x.feed(3, 0);
        x.act(0, 3, 0);
        int[] want = {2, 1, 3, 3, 8};
        for (int what = 0; what < 5; what++) due("count " + what, want[what], x.count(what));
        due("count 5", BAD, x.count(5));
        due("count -1", BAD, x.count(-1));
        x.trace(0);
        x.outcome(0, 0, 0);
        due("other calls leave it", 8, x.count(4));
        x.clear(1);
        due("judges", 1, x.count(3));
    }
}
