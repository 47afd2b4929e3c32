import java.util.Arrays;

/**
 * Judges answer tied questions, and ways put their answers together.
 *
 * Told answers and outcomes are one number everywhere inside: the yes ones in the ten
 * lowest bits, the no ones in the ten above, so that "like outcomes" is one comparison.
 */
public final class DoorBench {
    public static final int BAD = -1, NOT = -2, FULL = -3, BIG = -4, VOID = -2000000000;

    private static final int NOTHING_THERE = -11, OTHER_KIND = -12, NO_PLACE = -13, NO_SIZE = -14;
    private static final int MOST_AGENDAS = 8, MOST_WAYS = 20, MOST_JUDGES = 9;
    private static final int MOST_QUESTIONS = 10, MOST_TIES = 8, MOST_OPEN = 6;
    private static final int MOST_SETS = 12, MOST_SEATS = 5, MOST_ORDERED = 6;
    private static final int MOST_ROW_SETS = 6, MOST_ROW_SEATS = 3, MOST_ROWS = 216;
    private static final int SHELVES = 6, LONGEST_ROW = 60, BOOLEANS = 4, HOLDS_WAY = 5, HOLDS_NOTHING = -1;
    private static final int LONGEST_TAPE = 160, KEPT_BODIES = 24;
    private static final int SHIFT = 10, LOW = 1023;
    // Twelve times the 1365 benches of four: the most outcomes that twisted() has to remember.
    private static final int MOST_REMEMBERED = 16380;

    /** CHOOSE[6 * a + b]: in how many ways b of a things can be taken. */
    private static final int[] CHOOSE = {
        1, 0, 0, 0, 0, 0,
        1, 1, 0, 0, 0, 0,
        1, 2, 1, 0, 0, 0,
        1, 3, 3, 1, 0, 0,
        1, 4, 6, 4, 1, 0,
        1, 5, 10, 10, 5, 1,
        1, 6, 15, 20, 15, 6,
        1, 7, 21, 35, 35, 21,
        1, 8, 28, 56, 70, 56,
        1, 9, 36, 84, 126, 126,
        1, 10, 45, 120, 210, 252,
        1, 11, 55, 165, 330, 462,
        1, 12, 66, 220, 495, 792,
        1, 13, 78, 286, 715, 1287,
        1, 14, 91, 364, 1001, 2002,
        1, 15, 105, 455, 1365, 3003,
        1, 16, 120, 560, 1820, 4368,
    };

    /** YES_SETS[q]: which of 64 sets that follow one another answer question q yes (q below 6). */
    private static final long[] YES_SETS = {
        0xaaaaaaaaaaaaaaaaL, 0xccccccccccccccccL, 0xf0f0f0f0f0f0f0f0L,
        0xff00ff00ff00ff00L, 0xffff0000ffff0000L, 0xffffffff00000000L,
    };

    /** KIND_ABOVE[k]: the kind that kind k stands under, or -1. */
    private static final int[] KIND_ABOVE = {-1, 0, 1, 1, 0, 0, 5, 0};

    private final Tape tape = new Tape();
    private final Bench[] seated = new Bench[MOST_AGENDAS];
    // A second bench of each agenda, on which all benches are tried without touching the told one.
    private final Bench[] trials = new Bench[MOST_AGENDAS];
    private int agendas;
    private final Way[] bodies = new Way[MOST_WAYS];
    private int ways;
    // How many bodies ran in the latest act, and behind that the first of them.
    private final int[] ran = new int[KEPT_BODIES + 1];
    private final int[] sorts = {-1, -1, -1, -1, -1, -1};
    private final int[] sizes = new int[SHELVES];
    private final long[] elements = new long[SHELVES * LONGEST_ROW];
    private final Way[] kept = new Way[SHELVES];
    private final int[] outcomes = new int[MOST_ROWS];
    // Made once, by the first call that needs it: many objects never do.
    private int[] remembered;

    public DoorBench() {
    }

    // ---- agendas

    public int feed(int n, int v) {
        if (n < 1 || n > 4) return BAD;
        return tape.take(n, v) ? tape.length : FULL;
    }

    public int agenda() {
        if (agendas >= MOST_AGENDAS) return FULL;
        int fault = tape.findFault();
        int answer = fault >= 0 ? -100 - fault : found(tape.told());
        tape.length = 0;
        return answer;
    }

    private int found(Agenda agenda) {
        if (agenda.sets.length == 0) return -1000 - agenda.impossibleTies();
        seated[agendas] = new Bench(agenda);
        trials[agendas] = new Bench(agenda);
        agendas++;
        return agendas - 1;
    }

    public int of(int agenda, int what) {
        Bench bench = benchOf(agenda);
        if (bench == null) return BAD;
        switch (what) {
            case 0: return bench.agenda.questions;
            case 1: return bench.agenda.ties;
            case 2: return bench.agenda.premises;
            case 3: return bench.agenda.ends;
            case 4: return bench.agenda.sets.length;
            case 5: return bench.judges;
            default: return BAD;
        }
    }

    public int lawful(int agenda, int i) {
        Agenda asked = agendaOf(agenda);
        if (asked == null || i < 0 || i >= asked.sets.length) return BAD;
        return asked.sets[i];
    }

    public int broken(int agenda, int set) {
        Agenda asked = agendaOf(agenda);
        if (asked == null || !asked.hasSet(set)) return BAD;
        return asked.tiesBrokenBy(asked.answersOf(set));
    }

    public int stands(int agenda, int yes, int no) {
        Agenda asked = agendaOf(agenda);
        if (asked == null || !asked.canBeTold(yes, no)) return BAD;
        return asked.canStand(yes | no << SHIFT) ? 1 : 0;
    }

    public int forced(int agenda, int yes, int no, int question) {
        Agenda asked = agendaOf(agenda);
        if (asked == null || !asked.canBeTold(yes, no) || !asked.hasQuestion(question)) return BAD;
        int implied = asked.implied(yes | no << SHIFT);
        if (implied < 0) return -3;
        if ((implied >> question & 1) != 0) return 1;
        return (implied >> question + SHIFT & 1) != 0 ? 0 : NOT;
    }

    public int why(int agenda, int yes, int no) {
        Agenda asked = agendaOf(agenda);
        if (asked == null || !asked.canBeTold(yes, no)) return BAD;
        int told = yes | no << SHIFT;
        return asked.canStand(told) ? NOT : asked.smallestFallen(told);
    }

    // ---- benches

    public int judge(int agenda, int weight, int yes, int no) {
        Bench bench = benchOf(agenda);
        if (bench == null || weight < 1 || weight > 9 || !bench.agenda.canBeTold(yes, no)) return BAD;
        if (!bench.agenda.canStand(yes | no << SHIFT)) return NOT;
        if (bench.judges >= MOST_JUDGES) return FULL;
        bench.seat(weight, yes, no);
        return bench.judges - 1;
    }

    public int change(int agenda, int judge, int yes, int no) {
        Bench bench = benchOf(agenda);
        if (bench == null || !bench.hasJudge(judge) || !bench.agenda.canBeTold(yes, no)) return BAD;
        if (!bench.agenda.canStand(yes | no << SHIFT)) return NOT;
        bench.alter(judge, yes, no);
        return 1;
    }

    public int read(int agenda, int judge, int shelf, int i) {
        Bench bench = benchOf(agenda);
        if (bench == null || !bench.hasJudge(judge) || !isShelf(shelf)) return BAD;
        if (sorts[shelf] != HOLDS_NOTHING && sorts[shelf] != BOOLEANS) return OTHER_KIND;
        int told = answersFrom(shelf, i, bench.agenda.questions);
        if (!bench.agenda.canStand(told)) return NOT;
        bench.alter(judge, told & LOW, told >> SHIFT);
        return Integer.bitCount(told);
    }

    /** Answers from a row; an empty shelf's row has no places, and behind a place that lacks all is silent. */
    private int answersFrom(int shelf, int i, int questions) {
        int size = sorts[shelf] == BOOLEANS ? sizes[shelf] : 0;
        if (i < 0 || i >= size) return 0;
        int told = 0;
        for (int q = 0; q < questions && i + q < size; q++) {
            told |= elements[shelf * LONGEST_ROW + i + q] != 0 ? 1 << q : 1 << q + SHIFT;
        }
        return told;
    }

    public int clear(int agenda) {
        Bench bench = benchOf(agenda);
        if (bench == null) return BAD;
        int were = bench.judges;
        bench.dismiss();
        return were;
    }

    public int ofJudge(int agenda, int judge, int what) {
        Bench bench = benchOf(agenda);
        if (bench == null || !bench.hasJudge(judge)) return BAD;
        switch (what) {
            case 0: return bench.weights[judge];
            case 1: return bench.yes[judge];
            case 2: return bench.no[judge];
            default: return BAD;
        }
    }

    public int votes(int agenda, int question, int what) {
        Bench bench = benchOf(agenda);
        if (bench == null || !bench.agenda.hasQuestion(question) || !isEither(what)) return BAD;
        return bench.weightOn(question, what == 0 ? bench.yes : bench.no);
    }

    public int far(int agenda, int set) {
        Bench bench = benchOf(agenda);
        if (bench == null || !bench.agenda.hasSet(set)) return BAD;
        return bench.distance(set);
    }

    public int nearest(int agenda, int i) {
        Bench bench = benchOf(agenda);
        if (bench == null || i < -1) return BAD;
        return bench.nearestAt(i);
    }

    // ---- ways

    public int way(int kind, int s, int c) {
        if (kind < 0 || kind >= KIND_ABOVE.length) return BAD;
        boolean shifts = kind == 5 || kind == 6, watches = kind == 6 || kind == 7;
        if (shifts && (s < 0 || s > 9) || watches && (c < 0 || c >= MOST_JUDGES)) return BAD;
        if (ways >= MOST_WAYS) return FULL;
        bodies[ways] = bodyOf(kind, shifts ? s : 0, watches ? c : 0);
        ways++;
        return ways - 1;
    }

    private Way bodyOf(int kind, int s, int c) {
        switch (kind) {
            case 1: return new Heads(kind, ways, ran);
            case 2: return new Premises(kind, ways, ran);
            case 3: return new Ends(kind, ways, ran);
            case 4: return new Near(kind, ways, ran);
            case 5: return new Turns(kind, ways, ran, s, c);
            case 6: return new Chair(kind, ways, ran, s, c);
            case 7: return new Leader(kind, ways, ran, s, c);
            default: return new Way(kind, ways, ran, s, c);
        }
    }

    public int ofWay(int way, int what) {
        Way body = bodyAt(way);
        if (body == null) return BAD;
        switch (what) {
            case 0: return body.kind;
            case 1: return body.shift;
            case 2: return body.judge;
            default: return BAD;
        }
    }

    public int outcome(int way, int agenda, int what) {
        Way body = bodyAt(way);
        Bench bench = benchOf(agenda);
        if (body == null || bench == null || what < 0 || what > 4) return BAD;
        int decided = body.decide(bench);
        switch (what) {
            case 0: return decided & LOW;
            case 1: return decided >> SHIFT;
            case 2: return bench.agenda.all & ~(decided | decided >> SHIFT);
            case 3: return bench.agenda.tiesBrokenBy(decided);
            default: return bench.agenda.canStand(decided) ? 0 : 1;
        }
    }

    // ---- all benches

    public int benches(int agenda, int n) {
        int refusal = refusalOfAll(agenda, n);
        if (refusal != 0) return refusal;
        return trials[agenda].manyOf(n);
    }

    public int unlawful(int way, int agenda, int n, int what) {
        Way body = bodyAt(way);
        if (body == null || !isEither(what)) return BAD;
        int refusal = refusalOfAll(agenda, n);
        if (refusal != 0) return refusal;
        return body.unlawfulOnes(trials[agenda], n, what == 1);
    }

    public int unlike(int way, int other, int agenda, int n, int what) {
        Way body = bodyAt(way), second = bodyAt(other);
        if (body == null || second == null || !isEither(what)) return BAD;
        int refusal = refusalOfAll(agenda, n);
        if (refusal != 0) return refusal;
        return body.unlikeOnes(second, trials[agenda], n, what == 1);
    }

    public int sway(int way, int agenda, int n, int question) {
        Way body = bodyAt(way);
        Agenda asked = agendaOf(agenda);
        if (body == null || asked == null || !asked.hasQuestion(question)) return BAD;
        int refusal = refusalOfAll(agenda, n);
        if (refusal != 0) return refusal;
        return body.yesOnes(trials[agenda], n, question);
    }

    public int twist(int way, int agenda, int judge) {
        Way body = bodyAt(way);
        Bench bench = benchOf(agenda);
        if (body == null || bench == null || !bench.hasJudge(judge) || bench.isSilent(judge)) return BAD;
        return body.bestTwist(bench, judge);
    }

    public int twisted(int way, int agenda, int n) {
        Way body = bodyAt(way);
        if (body == null) return BAD;
        int refusal = refusalOfAll(agenda, n);
        if (refusal != 0) return refusal;
        if (remembered == null) remembered = new int[MOST_REMEMBERED];
        return body.twistedOnes(trials[agenda], n, remembered);
    }

    // ---- laws

    public int breach(int way, int agenda, int n, int law) {
        Way body = bodyAt(way);
        if (body == null || law < 0 || law > 4) return BAD;
        int refusal = refusalOfRows(agenda, n);
        if (refusal != 0) return refusal;
        body.decideRows(trials[agenda], n, outcomes);
        return trials[agenda].breachOf(law, outcomes);
    }

    public int keeper(int agenda, int n, int laws) {
        if (laws < 1 || laws > 31) return BAD;
        int refusal = refusalOfRows(agenda, n);
        if (refusal != 0) return refusal;
        for (int way = 0; way < ways; way++) {
            bodies[way].decideRows(trials[agenda], n, outcomes);
            if (trials[agenda].keepsAll(laws, outcomes)) return way;
        }
        return NOT;
    }

    public int mend(int agenda, int n, int what) {
        Agenda asked = agendaOf(agenda);
        if (asked == null || n < 1 || n > MOST_SEATS || what < 0 || what > 2) return BAD;
        return asked.mendBy(n, what);
    }

    public int orders(int agenda, int question, int what) {
        Bench bench = benchOf(agenda);
        if (bench == null || !bench.agenda.hasQuestion(question) || !isEither(what)) return BAD;
        if (bench.agenda.questions > MOST_ORDERED) return BIG;
        return bench.ordersFor(question, what == 1);
    }

    // ---- acts, shelves

    public int act(int way, int act, int x) {
        ran[0] = 0;
        Way body = bodyAt(way);
        if (body == null) return 0;
        switch (act) {
            case 0: return body.counts(x);
            case 1: return body.weighs(x);
            case 2: return body.binds(x);
            case 3: return body.tells(x);
            default: return 0;
        }
    }

    public int trace(int i) {
        if (i < 0 || i >= ran[0] || i >= KEPT_BODIES) return BAD;
        return ran[i + 1];
    }

    public int keep(int shelf, int way) {
        if (!isShelf(shelf)) return BAD;
        if (way != -1 && bodyAt(way) == null) return BAD;
        kept[shelf] = bodyAt(way);
        sorts[shelf] = way == -1 ? HOLDS_NOTHING : HOLDS_WAY;
        return 1;
    }

    public int row(int shelf, int sort, int n) {
        if (!isShelf(shelf) || sort < 0 || sort > BOOLEANS || n > LONGEST_ROW) return BAD;
        if (n < 0) return NO_SIZE;
        kept[shelf] = null;
        sorts[shelf] = sort;
        sizes[shelf] = n;
        Arrays.fill(elements, shelf * LONGEST_ROW, shelf * LONGEST_ROW + n, 0L);
        return 1;
    }

    public int put(int shelf, int i, long v) {
        int refusal = refusalOfPlace(shelf, i);
        if (refusal != 0) return refusal;
        elements[shelf * LONGEST_ROW + i] = lowestBits(sorts[shelf], v);
        return 1;
    }

    private static long lowestBits(int sort, long v) {
        switch (sort) {
            case 0: return (byte) v;
            case 1: return (short) v;
            case 2: return (int) v;
            case 3: return v;
            default: return v != 0 ? 1 : 0;
        }
    }

    public long element(int shelf, int i) {
        if (refusalOfPlace(shelf, i) != 0) return Long.MIN_VALUE;
        return elements[shelf * LONGEST_ROW + i];
    }

    public int shift(int shelf, int i, int other, int j, int n) {
        if (!isShelf(shelf) || !isShelf(other)) return BAD;
        if (sorts[shelf] == HOLDS_NOTHING || sorts[other] == HOLDS_NOTHING) return NOTHING_THERE;
        if (sorts[shelf] == HOLDS_WAY || sorts[shelf] != sorts[other]) return OTHER_KIND;
        if (!hasPlaces(shelf, i, n) || !hasPlaces(other, j, n)) return NO_PLACE;
        System.arraycopy(elements, shelf * LONGEST_ROW + i, elements, other * LONGEST_ROW + j, n);
        return n;
    }

    public int taken(int shelf, int k) {
        if (!isShelf(shelf) || k < 0 || k >= KIND_ABOVE.length) return BAD;
        if (sorts[shelf] == HOLDS_NOTHING) return NOTHING_THERE;
        Way body = kept[shelf];
        return body != null && body.isUnder(k) ? body.kind : OTHER_KIND;
    }

    public int count(int what) {
        switch (what) {
            case 0: return agendas;
            case 1: return ways;
            case 2: return tape.length;
            case 3: return allJudges();
            case 4: return ran[0];
            default: return BAD;
        }
    }

    private int allJudges() {
        int sum = 0;
        for (int a = 0; a < agendas; a++) sum += seated[a].judges;
        return sum;
    }

    // ---- what the calls share

    private Bench benchOf(int agenda) {
        return agenda < 0 || agenda >= agendas ? null : seated[agenda];
    }

    private Agenda agendaOf(int agenda) {
        return agenda < 0 || agenda >= agendas ? null : seated[agenda].agenda;
    }

    private Way bodyAt(int way) {
        return way < 0 || way >= ways ? null : bodies[way];
    }

    private static boolean isShelf(int shelf) {
        return shelf >= 0 && shelf < SHELVES;
    }

    private static boolean isEither(int what) {
        return what == 0 || what == 1;
    }

    /** BAD or BIG, where all benches of n can't be gone through; else 0. */
    private int refusalOfAll(int agenda, int n) {
        Agenda asked = agendaOf(agenda);
        if (asked == null || n < 1 || n > MOST_SEATS) return BAD;
        return asked.sets.length > MOST_SETS ? BIG : 0;
    }

    /** BAD or BIG, where all rows of n can't be gone through; else 0. */
    private int refusalOfRows(int agenda, int n) {
        Agenda asked = agendaOf(agenda);
        if (asked == null || n < 1 || n > MOST_ROW_SEATS) return BAD;
        return asked.sets.length > MOST_ROW_SETS ? BIG : 0;
    }

    /** Why element i of a shelf's row can't be had; else 0. */
    private int refusalOfPlace(int shelf, int i) {
        if (!isShelf(shelf)) return BAD;
        if (sorts[shelf] == HOLDS_NOTHING) return NOTHING_THERE;
        if (sorts[shelf] == HOLDS_WAY) return OTHER_KIND;
        return i < 0 || i >= sizes[shelf] ? NO_PLACE : 0;
    }

    private boolean hasPlaces(int shelf, int i, int n) {
        // Subtracted, not added: i + n may wrap.
        return i >= 0 && n >= 0 && n <= sizes[shelf] - i;
    }

    private static int choose(int a, int b) {
        if (a < 0 || b < 0 || b > 5 || 6 * a + b >= CHOOSE.length) return 0;
        return CHOOSE[6 * a + b];
    }

    /** THE TAPE: bytes that come, and the reading of them as an agenda. */
    private static final class Tape {
        final int[] bytes = new int[LONGEST_TAPE];
        int length;
        private int at;
        private int fault;
        private int questions, premises, ends, ties;
        // The question's number by letter, or -1.
        private final int[] numbers = new int[MOST_QUESTIONS];
        private final int[] tieStarts = new int[MOST_TIES];
        // Which 64 sets the words speak of that the reading of a tie answers.
        private int block;
        // For each depth: where at least 0, 1 .. 9 of the parts in { } read so far hold.
        private final long[] reached = new long[(MOST_OPEN + 1) * 10];

        boolean take(int n, int v) {
            if (length + n > LONGEST_TAPE) return false;
            for (int i = 0; i < n; i++) {
                bytes[length] = v >>> 8 * i & 255;
                length++;
            }
            return true;
        }

        /** The place of the first byte that no agenda goes on with, or -1. */
        int findFault() {
            at = 0;
            fault = -1;
            questions = premises = ends = ties = block = 0;
            Arrays.fill(numbers, -1);
            expect('q');
            expect(' ');
            nameQuestions();
            for (int i = 0; i < LONGEST_TAPE && fault < 0 && at < length; i++) anotherPart();
            return fault;
        }

        private boolean passes(int sign) {
            if (fault >= 0 || at >= length || bytes[at] != sign) return false;
            at++;
            return true;
        }

        private void expect(int sign) {
            if (fault >= 0) return;
            if (at < length && bytes[at] == sign) {
                at++;
            } else {
                fault = at;
            }
        }

        /** Only the first fault counts: what comes behind it isn't read any more. */
        private void fail() {
            if (fault < 0) fault = at;
        }

        private int questionHere() {
            int letter = fault < 0 && at < length ? bytes[at] - 'a' : -1;
            return letter < 0 || letter >= MOST_QUESTIONS ? -1 : numbers[letter];
        }

        private void nameQuestions() {
            for (int i = 0; i < MOST_QUESTIONS && fault < 0 && at < length; i++) {
                int letter = bytes[at] - 'a';
                if (letter < 0 || letter >= MOST_QUESTIONS || numbers[letter] >= 0) break;
                numbers[letter] = questions;
                questions++;
                at++;
            }
            if (questions == 0) fail();
        }

        private void anotherPart() {
            if (!passes(';')) {
                fail();
            } else if (premises == 0 && passes('p')) {
                premises = someQuestions();
            } else if (ends == 0 && passes('e')) {
                ends = someQuestions();
            } else if (ties < MOST_TIES && passes('t')) {
                expect(' ');
                tieStarts[ties] = at;
                ties++;
                tie(0);
            } else {
                fail();
            }
        }

        private int someQuestions() {
            expect(' ');
            int some = 0;
            for (int i = 0; i < MOST_QUESTIONS; i++) {
                int question = questionHere();
                if (question < 0 || (some >> question & 1) != 0) break;
                some |= 1 << question;
                at++;
            }
            if (some == 0) fail();
            return some;
        }

        /** T and I at once: in which sets of the block it holds; open: how many of ( { ! are open around it. */
        private long tie(int open) {
            long value = -1L;
            for (int i = 0; i < LONGEST_TAPE; i++) {
                long condition = either(open);
                if (passes('>')) condition = ~condition | either(open);
                // What holds everywhere is exactly so with the first one where that holds.
                value = ~(value ^ condition);
                if (!passes('=')) break;
            }
            return value;
        }

        /** O and A at once: all since the latest | in one word, what stands ahead of that in another. */
        private long either(int open) {
            long ahead = 0, all = simple(open);
            for (int i = 0; i < LONGEST_TAPE; i++) {
                if (passes('&')) {
                    all &= simple(open);
                } else if (passes('|')) {
                    ahead |= all;
                    all = simple(open);
                } else {
                    break;
                }
            }
            return ahead | all;
        }

        private long simple(int open) {
            int question = questionHere();
            if (question >= 0) {
                at++;
                return yesSets(question);
            }
            // A digit opens nothing, but { must follow it: it is as wrong here as that.
            if (open < MOST_OPEN) {
                if (passes('!')) return ~simple(open + 1);
                if (passes('(')) {
                    long value = tie(open + 1);
                    expect(')');
                    return value;
                }
                int least = fault < 0 && at < length ? bytes[at] - '0' : 0;
                if (least >= 1 && least <= 9) {
                    at++;
                    return atLeast(least, open + 1);
                }
            }
            fail();
            return 0;
        }

        private long yesSets(int question) {
            if (question < YES_SETS.length) return YES_SETS[question];
            return (block >> question - YES_SETS.length & 1) != 0 ? -1L : 0L;
        }

        private long atLeast(int least, int open) {
            int none = open * 10;
            Arrays.fill(reached, none, none + 10, 0L);
            reached[none] = -1L;
            expect('{');
            for (int i = 0; i < LONGEST_TAPE; i++) {
                long value = tie(open);
                for (int k = least; k > 0; k--) reached[none + k] |= reached[none + k - 1] & value;
                if (!passes(',')) break;
            }
            expect('}');
            return reached[none + least];
        }

        /** The agenda that the tape tells, when it has no fault. */
        Agenda told() {
            int blocks = questions > 6 ? 1 << questions - 6 : 1;
            long whole = questions < 6 ? (1L << (1 << questions)) - 1 : -1L;
            long[] keeping = new long[ties * blocks];
            for (int b = 0; b < blocks; b++) {
                block = b;
                for (int t = 0; t < ties; t++) {
                    at = tieStarts[t];
                    keeping[t * blocks + b] = tie(0) & whole;
                }
            }
            return new Agenda(questions, premises, ends, ties, keeping);
        }
    }

    /** Questions with their ties, and what follows from these. */
    private static final class Agenda {
        final int questions, all, premises, ends, ties;
        final int[] sets;
        // Sets go in blocks of 64, a bit each: keeping[t * blocks + b] has those that keep tie t.
        private final int blocks;
        private final long whole;
        private final long[] keeping;
        private final long[] lawfulBits;
        // Lawful sets by their numbers go in spans of 64: yesOnes[q * spans + s] has those that answer q yes.
        final int spans;
        private final long[] yesOnes;
        private final long[] fewBits;
        private final int[] few = new int[MOST_SETS];

        Agenda(int questions, int premises, int ends, int ties, long[] keeping) {
            this.questions = questions;
            this.premises = premises;
            this.ends = ends;
            this.ties = ties;
            this.keeping = keeping;
            all = (1 << questions) - 1;
            blocks = questions > 6 ? 1 << questions - 6 : 1;
            whole = questions < 6 ? (1L << (1 << questions)) - 1 : -1L;
            lawfulBits = new long[blocks];
            fewBits = new long[blocks];
            int many = 0;
            for (int b = 0; b < blocks; b++) {
                lawfulBits[b] = keptWithout(0, b);
                many += Long.bitCount(lawfulBits[b]);
            }
            sets = new int[many];
            spans = many + 63 >> 6;
            yesOnes = new long[questions * spans];
            listSets();
        }

        private void listSets() {
            int number = 0;
            for (int set = 0; set <= all && number < sets.length; set++) {
                if (!isLawful(set)) continue;
                sets[number] = set;
                for (int q = 0; q < questions; q++) {
                    if ((set >> q & 1) != 0) yesOnes[q * spans + (number >> 6)] |= 1L << (number & 63);
                }
                number++;
            }
        }

        /** The sets of a block that keep all ties but those dropped (bits). */
        private long keptWithout(int dropped, int b) {
            long left = whole;
            for (int t = 0; t < ties && left != 0; t++) {
                if ((dropped >> t & 1) == 0) left &= keeping[t * blocks + b];
            }
            return left;
        }

        boolean hasQuestion(int question) {
            return question >= 0 && question < questions;
        }

        boolean hasSet(int set) {
            return set >= 0 && set <= all;
        }

        boolean canBeTold(int yes, int no) {
            return hasSet(yes) && hasSet(no) && (yes & no) == 0;
        }

        boolean isLawful(int set) {
            return hasSet(set) && (lawfulBits[set >> 6] >>> (set & 63) & 1) != 0;
        }

        int answersOf(int set) {
            return set | (all & ~set) << SHIFT;
        }

        /** The same questions, yes ones and no ones: to take these out of an outcome. */
        static int both(int some) {
            return some | some << SHIFT;
        }

        /** The numbers of lawful sets there are in a span. */
        long wholeSpan(int span) {
            int behind = sets.length - (span << 6);
            return behind >= 64 ? -1L : (1L << behind) - 1;
        }

        /** The lawful sets of a span that answer a question so. */
        long answering(int question, boolean yes, int span) {
            long ones = yesOnes[question * spans + span];
            return yes ? ones : ~ones;
        }

        /** The lawful sets of a span that have the told answers. */
        private long having(int told, int span) {
            long left = wholeSpan(span);
            for (int q = 0; q < questions && left != 0; q++) {
                if ((told >> q & 1) != 0) left &= yesOnes[q * spans + span];
                if ((told >> q + SHIFT & 1) != 0) left &= ~yesOnes[q * spans + span];
            }
            return left;
        }

        boolean canStand(int told) {
            for (int s = 0; s < spans; s++) {
                if (having(told, s) != 0) return true;
            }
            return false;
        }

        /** All that is forced by told answers, these among it; -1 if they can't stand. */
        int implied(int told) {
            int someYes = 0, someNo = 0;
            for (int s = 0; s < spans; s++) {
                long left = having(told, s);
                for (int q = 0; q < questions && left != 0; q++) {
                    long ones = yesOnes[q * spans + s];
                    if ((left & ones) != 0) someYes |= 1 << q;
                    if ((left & ~ones) != 0) someNo |= 1 << q;
                }
            }
            if ((someYes | someNo) == 0) return -1;
            return someYes & ~someNo | (someNo & ~someYes) << SHIFT;
        }

        /** The smallest part of told answers that can't stand, where the whole can't. */
        int smallestFallen(int told) {
            int best = told, fewest = Integer.bitCount(told);
            // Parts in order of their bits: that is the document's order of equally small ones.
            int part = 0;
            for (int i = 0; i <= all && part != told; i++) {
                int size = Integer.bitCount(part);
                if (size < fewest && !canStand(part)) {
                    best = part;
                    fewest = size;
                }
                part = part - told & told;
            }
            return best;
        }

        /** The ties that fail however the open questions are answered, as bits. */
        int tiesBrokenBy(int decided) {
            int broken = (1 << ties) - 1;
            for (int b = 0; b < blocks; b++) {
                long left = setsHaving(decided, b);
                for (int t = 0; t < ties && left != 0; t++) {
                    if ((left & keeping[t * blocks + b]) != 0) broken &= ~(1 << t);
                }
            }
            return broken;
        }

        /** The sets of a block, lawful or not, that have the decided answers. */
        private long setsHaving(int decided, int b) {
            // All sets of a block answer the questions from the seventh on alike: as the block's number.
            int yes = decided & LOW, no = decided >> SHIFT, high = b << 6;
            if ((yes & ~63 & ~high) != 0 || (no & high) != 0) return 0L;
            long left = whole;
            for (int q = 0; q < YES_SETS.length; q++) {
                if ((yes >> q & 1) != 0) left &= YES_SETS[q];
                if ((no >> q & 1) != 0) left &= ~YES_SETS[q];
            }
            return left;
        }

        /** The fewest ties that no set keeps together, of several the least as bits. */
        int impossibleTies() {
            int every = (1 << ties) - 1, best = every, fewest = ties;
            for (int part = 1; part < every; part++) {
                int size = Integer.bitCount(part);
                if (size < fewest && noneKeeps(part)) {
                    best = part;
                    fewest = size;
                }
            }
            return best;
        }

        private boolean noneKeeps(int part) {
            for (int b = 0; b < blocks; b++) {
                if (keptWithout(~part, b) != 0) return false;
            }
            return true;
        }

        int mendBy(int n, int what) {
            int fewest = MOST_TIES + 1, least = 0, rivals = 0;
            for (int dropped = 0; dropped < 1 << ties; dropped++) {
                int size = Integer.bitCount(dropped);
                if (size > fewest || !isSafeWithout(dropped, n)) continue;
                if (size < fewest) {
                    fewest = size;
                    least = dropped;
                    rivals = 0;
                }
                rivals++;
            }
            if (rivals == 0) return NOT;
            return what == 0 ? fewest : what == 1 ? least : rivals;
        }

        /**
         * Whether heads are lawful at all benches of n without these ties.
         *
         * One or two judges never decide anything that one of them doesn't answer. With three it
         * is the majority of each three sets. With five the same threes decide: two, two and one
         * judge are a bench of five, and sets that hold all majorities of three are those of
         * ties between pairs, which five can't break either. With four only unlike sets matter:
         * of two that are alike the decided answers are a part.
         */
        private boolean isSafeWithout(int dropped, int n) {
            int many = listFew(dropped);
            if (many > MOST_SETS) return false;
            if (n < 3) return true;
            return n == 4 ? foursStand(many) : threesStand(many);
        }

        /** Lists the sets that keep all but the dropped ties: how many, or more than can be gone through. */
        private int listFew(int dropped) {
            int many = 0;
            for (int b = 0; b < blocks; b++) {
                fewBits[b] = keptWithout(dropped, b);
                many += Long.bitCount(fewBits[b]);
            }
            if (many > MOST_SETS) return many;
            int number = 0;
            for (int b = 0; b < blocks; b++) {
                long left = fewBits[b];
                for (int i = 0; i < MOST_SETS && left != 0 && number < MOST_SETS; i++) {
                    few[number] = (b << 6) + Long.numberOfTrailingZeros(left);
                    number++;
                    left &= left - 1;
                }
            }
            return many;
        }

        private boolean threesStand(int many) {
            for (int i = 0; i < many; i++) {
                for (int j = i + 1; j < many; j++) {
                    int meet = few[i] & few[j], join = few[i] | few[j];
                    for (int k = j + 1; k < many; k++) {
                        int set = meet | join & few[k];
                        if ((fewBits[set >> 6] >>> (set & 63) & 1) == 0) return false;
                    }
                }
            }
            return true;
        }

        private boolean foursStand(int many) {
            for (int i = 0; i < many; i++) {
                for (int j = i + 1; j < many; j++) {
                    int meet = few[i] & few[j], join = few[i] | few[j];
                    for (int k = j + 1; k < many; k++) {
                        for (int m = k + 1; m < many; m++) {
                            int meet2 = few[k] & few[m], join2 = few[k] | few[m];
                            int threeYes = meet & join2 | join & meet2;
                            int twoYes = meet | meet2 | join & join2;
                            if (!someOfFew(threeYes, all & ~twoYes, many)) return false;
                        }
                    }
                }
            }
            return true;
        }

        private boolean someOfFew(int yes, int no, int many) {
            for (int i = 0; i < many; i++) {
                if ((few[i] & (yes | no)) == yes) return true;
            }
            return false;
        }
    }

    /** Judges with their answers; a trial bench has lawful sets by numbers instead of told answers. */
    private static final class Bench {
        final Agenda agenda;
        final int[] weights = new int[MOST_JUDGES];
        final int[] yes = new int[MOST_JUDGES];
        final int[] no = new int[MOST_JUDGES];
        int judges;
        // FOR less AGAINST by question: by heads it decides, and by it sets are near.
        private final int[] lean = new int[MOST_QUESTIONS];
        // The lean of all yes answers among the five lowest questions, and among the others.
        private final int[] lowLean = new int[32];
        private final int[] highLean = new int[32];
        private final int[] order = new int[MOST_QUESTIONS];
        // In turns: the lawful sets that have all answers so far, in spans as the agenda's.
        private final long[] left;
        // On a trial bench: the lawful numbers of the judges, which settle() seats.
        final int[] numbers = new int[MOST_SEATS];
        // By question and by who answers it yes: 1 and the outcome's answer in the rows so far, if any.
        private final int[] before = new int[MOST_QUESTIONS << MOST_ROW_SEATS];

        Bench(Agenda agenda) {
            this.agenda = agenda;
            left = new long[agenda.spans];
        }

        boolean hasJudge(int judge) {
            return judge >= 0 && judge < judges;
        }

        boolean isSilent(int judge) {
            return (yes[judge] | no[judge]) != agenda.all;
        }

        void seat(int weight, int someYes, int someNo) {
            weights[judges] = weight;
            yes[judges] = no[judges] = 0;
            judges++;
            alter(judges - 1, someYes, someNo);
        }

        void alter(int judge, int newYes, int newNo) {
            int oldYes = yes[judge], oldNo = no[judge];
            for (int q = 0; q < agenda.questions; q++) {
                int step = (newYes >> q & 1) - (newNo >> q & 1) - (oldYes >> q & 1) + (oldNo >> q & 1);
                lean[q] += step * weights[judge];
            }
            yes[judge] = newYes;
            no[judge] = newNo;
        }

        void dismiss() {
            judges = 0;
            Arrays.fill(lean, 0);
        }

        int weightOn(int question, int[] answers) {
            int sum = 0;
            for (int j = 0; j < judges; j++) sum += (answers[j] >> question & 1) * weights[j];
            return sum;
        }

        int distance(int set) {
            int sum = 0;
            for (int j = 0; j < judges; j++) sum += weights[j] * Integer.bitCount(yes[j] & ~set | no[j] & set);
            return sum;
        }

        /** The outcome by heads. */
        int byHeads() {
            int decided = 0;
            for (int q = 0; q < agenda.questions; q++) {
                if (lean[q] > 0) decided |= 1 << q;
                if (lean[q] < 0) decided |= 1 << q + SHIFT;
            }
            return decided;
        }

        /** FAR of a set is the sum of all FOR less its lean: the nearest set has the greatest lean. */
        private int leanOf(int set) {
            return lowLean[set & 31] + highLean[set >> 5 & 31];
        }

        private void sumLeans() {
            int questions = agenda.questions;
            for (int i = 1; i < 1 << Math.min(questions, 5); i++) {
                lowLean[i] = lowLean[i & i - 1] + lean[Integer.numberOfTrailingZeros(i)];
            }
            for (int i = 1; i < 1 << Math.max(questions - 5, 0); i++) {
                highLean[i] = highLean[i & i - 1] + lean[5 + Integer.numberOfTrailingZeros(i)];
            }
        }

        /** The nearest lawful set that has told answers, all of them as by heads; -1 if none has them. */
        int nearestWith(int told) {
            // No set is nearer than the yes ones by heads, and no other so near is less.
            int easiest = byHeads() & LOW;
            if (agenda.isLawful(easiest)) return easiest;
            sumLeans();
            int toldYes = told & LOW, both = toldYes | told >> SHIFT;
            int best = -1, most = 0;
            for (int i = 0; i < agenda.sets.length; i++) {
                int set = agenda.sets[i];
                if ((set & both) != toldYes) continue;
                int leaning = leanOf(set);
                if (best < 0 || leaning > most) {
                    best = set;
                    most = leaning;
                }
            }
            return best;
        }

        /** The i-th of the nearest lawful sets; for -1 how many there are. */
        int nearestAt(int i) {
            sumLeans();
            int many = 0, most = 0;
            for (int k = 0; k < agenda.sets.length; k++) {
                int leaning = leanOf(agenda.sets[k]);
                if (k == 0 || leaning > most) {
                    most = leaning;
                    many = 0;
                }
                if (leaning == most) many++;
            }
            if (i < 0) return many;
            int seen = 0;
            for (int k = 0; k < agenda.sets.length; k++) {
                if (leanOf(agenda.sets[k]) != most) continue;
                if (seen == i) return agenda.sets[k];
                seen++;
            }
            return BAD;
        }

        void orderFrom(int shift) {
            int questions = agenda.questions;
            if (questions < 1) return;
            for (int i = 0; i < questions; i++) order[i] = (shift + i) % questions;
        }

        /** The outcome of the questions in their order; openYes: what is yes where heads leave it open. */
        int inTurns(int openYes) {
            for (int s = 0; s < left.length; s++) left[s] = agenda.wholeSpan(s);
            int decided = 0;
            for (int i = 0; i < agenda.questions; i++) {
                int q = order[i];
                boolean isYes = isYesInTurn(q, (openYes >> q & 1) != 0);
                for (int s = 0; s < left.length; s++) left[s] &= agenda.answering(q, isYes, s);
                decided |= isYes ? 1 << q : 1 << q + SHIFT;
            }
            return decided;
        }

        private boolean isYesInTurn(int question, boolean openYes) {
            boolean canYes = false, canNo = false;
            for (int s = 0; s < left.length && !(canYes && canNo); s++) {
                canYes |= (left[s] & agenda.answering(question, true, s)) != 0;
                canNo |= (left[s] & agenda.answering(question, false, s)) != 0;
            }
            if (canYes != canNo) return canYes;
            return lean[question] > 0 || lean[question] == 0 && openYes;
        }

        /** How many orders make a question yes in turns, or the first that does. */
        int ordersFor(int question, boolean first) {
            orderFrom(0);
            int many = 0, total = 1;
            for (int i = 2; i <= agenda.questions; i++) total *= i;
            for (int k = 0; k < total; k++) {
                if ((inTurns(0) >> question & 1) != 0) {
                    if (first) return orderDigits();
                    many++;
                }
                nextOrder();
            }
            return first ? NOT : many;
        }

        private int orderDigits() {
            int digits = 0;
            for (int i = 0; i < agenda.questions; i++) digits = digits * 10 + order[i];
            return digits;
        }

        /** The next order by numbers; behind the last one nothing changes. */
        private void nextOrder() {
            int last = agenda.questions - 1, rise = last - 1;
            while (rise >= 0 && order[rise] > order[rise + 1]) rise--;
            if (rise < 0) return;
            int above = last;
            while (above > rise && order[above] < order[rise]) above--;
            swapOrder(rise, above);
            for (int low = rise + 1, high = last; low < high; low++, high--) swapOrder(low, high);
        }

        private void swapOrder(int i, int j) {
            int was = order[i];
            order[i] = order[j];
            order[j] = was;
        }

        // ---- as a trial bench

        int manyOf(int n) {
            return choose(agenda.sets.length + n - 1, n);
        }

        /** The first of all benches of n: how many there are. */
        int sitFirst(int n) {
            dismiss();
            for (int j = 0; j < n && j < MOST_SEATS; j++) {
                numbers[j] = 0;
                seat(1, agenda.sets[0], agenda.all & ~agenda.sets[0]);
            }
            return manyOf(n);
        }

        /** The next of all benches; behind the last one nothing changes. */
        void sitNext() {
            int last = agenda.sets.length - 1, rise = judges - 1;
            while (rise >= 0 && numbers[rise] >= last) rise--;
            if (rise < 0) return;
            int number = numbers[rise] + 1;
            for (int j = rise; j < judges; j++) numbers[j] = number;
            settle();
        }

        /** Gives the judges the lawful sets of their numbers. */
        void settle() {
            for (int j = 0; j < judges; j++) {
                int set = agenda.sets[numbers[j]];
                if (yes[j] != set) alter(j, set, agenda.all & ~set);
            }
        }

        /** The bench as it is told: base 16, the first judge's number the lowest. */
        int toldNumbers() {
            int sum = 0;
            for (int j = 0; j < judges; j++) sum |= numbers[j] << 4 * j;
            return sum;
        }

        /** Which bench it is, whoever is who: numbers that don't fall have a place of their own. */
        int rank() {
            int sum = 0;
            for (int j = 0; j < judges; j++) sum += choose(numbers[j] + j, j + 1);
            return sum;
        }

        int otherThan(int judge, int i) {
            return numbers[i < judge ? i : i + 1];
        }

        /** What the others add to the rank, if the number that comes in for a judge is the least of all. */
        int rankOfOthers(int judge) {
            int sum = 0;
            for (int i = 0; i < judges - 1; i++) sum += choose(otherThan(judge, i) + i + 1, i + 2);
            return sum;
        }

        // ---- laws, over rows of lawful numbers

        int manyRows() {
            int many = 1;
            for (int j = 0; j < judges; j++) many *= agenda.sets.length;
            return many;
        }

        /** The number of a judge in a row: the first judge's counts most. */
        private int numberIn(int row, int judge) {
            int many = agenda.sets.length, rest = row;
            if (many < 1) return 0;
            for (int j = judges - 1; j > judge; j--) rest /= many;
            return rest % many;
        }

        private void numberAll(int row) {
            for (int j = 0; j < judges; j++) numbers[j] = numberIn(row, j);
        }

        void sitRow(int row) {
            numberAll(row);
            settle();
        }

        boolean keepsAll(int laws, int[] outcomes) {
            for (int law = 0; law < 5; law++) {
                if ((laws >> law & 1) != 0 && breachOf(law, outcomes) != NOT) return false;
            }
            return true;
        }

        int breachOf(int law, int[] outcomes) {
            int rows = Math.min(manyRows(), outcomes.length);
            switch (law) {
                case 0: return firstUnalike(outcomes, rows);
                case 1: return firstNotOwn(outcomes, rows);
                case 2: return firstOtherMind(outcomes, rows);
                case 3: return firstUnlawful(outcomes, rows);
                default: return firstSomebody(outcomes, rows);
            }
        }

        private int firstUnalike(int[] outcomes, int rows) {
            for (int r = 0; r < rows; r++) {
                if (outcomes[r] != outcomes[rowInOrder(r)]) return r;
            }
            return NOT;
        }

        private int rowInOrder(int row) {
            int many = agenda.sets.length, sum = 0;
            numberAll(row);
            for (int number = 0; number < many; number++) {
                for (int j = 0; j < judges; j++) {
                    if (numbers[j] == number) sum = sum * many + number;
                }
            }
            return sum;
        }

        private int firstNotOwn(int[] outcomes, int rows) {
            Arrays.fill(before, 0);
            for (int r = 0; r < rows; r++) {
                numberAll(r);
                for (int q = 0; q < agenda.questions; q++) {
                    int key = q << MOST_ROW_SEATS | whoSaysYes(q);
                    int answer = 1 + (outcomes[r] >> q & 1) + 2 * (outcomes[r] >> q + SHIFT & 1);
                    if (before[key] != 0 && before[key] != answer) return r;
                    before[key] = answer;
                }
            }
            return NOT;
        }

        private int whoSaysYes(int question) {
            int who = 0;
            for (int j = 0; j < judges; j++) who |= (agenda.sets[numbers[j]] >> question & 1) << j;
            return who;
        }

        private int firstOtherMind(int[] outcomes, int rows) {
            int many = agenda.sets.length;
            for (int number = 0; number < many; number++) {
                int row = 0;
                for (int j = 0; j < judges; j++) row = row * many + number;
                if (row < rows && outcomes[row] != agenda.answersOf(agenda.sets[number])) return row;
            }
            return NOT;
        }

        private int firstUnlawful(int[] outcomes, int rows) {
            for (int r = 0; r < rows; r++) {
                if (!agenda.canStand(outcomes[r])) return r;
            }
            return NOT;
        }

        private int firstSomebody(int[] outcomes, int rows) {
            for (int j = 0; j < judges; j++) {
                boolean always = true;
                for (int r = 0; r < rows && always; r++) {
                    always = outcomes[r] == agenda.answersOf(agenda.sets[numberIn(r, j)]);
                }
                if (always) return j;
            }
            return NOT;
        }
    }

    /** KIND 0, with the acts of COUNTS (1) and TELLS (2), which no other class shares. */
    private static class Way {
        final int kind, shift, judge;
        private final int number;
        private final int[] ran;

        Way(int kind, int number, int[] ran, int shift, int judge) {
            this.kind = kind;
            this.number = number;
            this.ran = ran;
            this.shift = shift;
            this.judge = judge;
        }

        final boolean isUnder(int other) {
            int above = kind;
            for (int i = 0; i < KIND_ABOVE.length && above >= 0; i++) {
                if (above == other) return true;
                above = KIND_ABOVE[above];
            }
            return false;
        }

        /** The outcome for a bench: all is open here. */
        int decide(Bench bench) {
            return 0;
        }

        // ---- acts

        final void note(int body) {
            ran[0]++;
            if (ran[0] < ran.length) ran[ran[0]] = body;
        }

        int counts(int x) {
            note(1);
            return x + number;
        }

        int weighs(int x) {
            note(10);
            return counts(x) * 2;
        }

        int binds(int x) {
            note(11);
            return x ^ number;
        }

        int tells(int x) {
            note(2);
            return weighs(x) - binds(1);
        }

        // ---- all benches

        final int unlawfulOnes(Bench trial, int n, boolean first) {
            int many = 0, total = trial.sitFirst(n);
            for (int b = 0; b < total; b++) {
                if (!trial.agenda.canStand(decide(trial))) {
                    if (first) return trial.toldNumbers();
                    many++;
                }
                trial.sitNext();
            }
            return first ? NOT : many;
        }

        final int unlikeOnes(Way other, Bench trial, int n, boolean first) {
            int many = 0, total = trial.sitFirst(n);
            for (int b = 0; b < total; b++) {
                if (decide(trial) != other.decide(trial)) {
                    if (first) return trial.toldNumbers();
                    many++;
                }
                trial.sitNext();
            }
            return first ? NOT : many;
        }

        final int yesOnes(Bench trial, int n, int question) {
            int many = 0, total = trial.sitFirst(n);
            for (int b = 0; b < total; b++) {
                many += decide(trial) >> question & 1;
                trial.sitNext();
            }
            return many;
        }

        final int bestTwist(Bench bench, int judge) {
            Agenda agenda = bench.agenda;
            int own = bench.yes[judge], mine = agenda.answersOf(own);
            // The most answers as its own is the least APART.
            int most = Integer.bitCount(decide(bench) & mine), best = NOT;
            for (int i = 0; i < agenda.sets.length && most < agenda.questions; i++) {
                int set = agenda.sets[i];
                bench.alter(judge, set, agenda.all & ~set);
                int like = Integer.bitCount(decide(bench) & mine);
                if (like > most) {
                    most = like;
                    best = set;
                }
            }
            bench.alter(judge, own, agenda.all & ~own);
            return best;
        }

        final int twistedOnes(Bench trial, int n, int[] remembered) {
            int many = 0, total = trial.sitFirst(n);
            Arrays.fill(remembered, -1);
            for (int b = 0; b < total; b++) {
                int decided = recall(trial, trial.rank(), remembered);
                boolean some = false;
                for (int j = 0; j < trial.judges && !some; j++) some = twists(trial, j, decided, remembered);
                if (some) many++;
                trial.sitNext();
            }
            return many;
        }

        private boolean twists(Bench trial, int judge, int decided, int[] remembered) {
            int own = trial.numbers[judge], mine = trial.agenda.answersOf(trial.agenda.sets[own]);
            int like = Integer.bitCount(decided & mine);
            if (like == trial.agenda.questions) return false;
            int below = 0, rank = trial.rankOfOthers(judge);
            boolean found = false;
            for (int x = 0; x < trial.agenda.sets.length && !found; x++) {
                // Numbers less than x stand one place lower than those that are not.
                while (below < trial.judges - 1 && trial.otherThan(judge, below) < x) {
                    rank -= choose(trial.otherThan(judge, below) + below, below + 2);
                    below++;
                }
                trial.numbers[judge] = x;
                int other = recall(trial, rank + choose(x + below, below + 1), remembered);
                found = Integer.bitCount(other & mine) > like;
            }
            trial.numbers[judge] = own;
            return found;
        }

        /** The outcome for the numbers of a trial bench, by the bench's rank where it was worked out before. */
        private int recall(Bench trial, int rank, int[] remembered) {
            int place = placeOf(trial, rank);
            if (place < 0 || place >= remembered.length) {
                trial.settle();
                return decide(trial);
            }
            if (remembered[place] < 0) {
                trial.settle();
                remembered[place] = decide(trial);
            }
            return remembered[place];
        }

        /** A number that benches share only if this way has one outcome for them. */
        int placeOf(Bench trial, int rank) {
            return rank;
        }

        // ---- laws

        final void decideRows(Bench trial, int n, int[] outcomes) {
            trial.sitFirst(n);
            int rows = trial.manyRows();
            for (int r = 0; r < rows && r < outcomes.length; r++) {
                trial.sitRow(r);
                outcomes[r] = decide(trial);
            }
        }
    }

    private static class Heads extends Way {
        Heads(int kind, int number, int[] ran) {
            super(kind, number, ran, 0, 0);
        }

        int decide(Bench bench) {
            return bench.byHeads();
        }

        int counts(int x) {
            note(20);
            return super.counts(x) - 1;
        }
    }

    private static final class Premises extends Heads {
        Premises(int kind, int number, int[] ran) {
            super(kind, number, ran);
        }

        int decide(Bench bench) {
            int premises = Agenda.both(bench.agenda.premises);
            int told = bench.byHeads() & premises;
            int implied = bench.agenda.implied(told);
            // Premises that heads leave open stay so, forced or not.
            return implied < 0 ? told : told | implied & ~premises;
        }

        int weighs(int x) {
            note(30);
            return super.weighs(x) + counts(2);
        }
    }

    private static final class Ends extends Heads {
        Ends(int kind, int number, int[] ran) {
            super(kind, number, ran);
        }

        int decide(Bench bench) {
            int ends = Agenda.both(bench.agenda.ends);
            int told = bench.byHeads() & ends;
            int nearest = bench.nearestWith(told);
            // Ends that heads leave open stay so: the set is for the others.
            return nearest < 0 ? told : told | bench.agenda.answersOf(nearest) & ~ends;
        }

        int binds(int x) {
            note(40);
            return super.binds(x) * 3;
        }
    }

    private static final class Near extends Way {
        Near(int kind, int number, int[] ran) {
            super(kind, number, ran, 0, 0);
        }

        int decide(Bench bench) {
            return bench.agenda.answersOf(Math.max(bench.nearestWith(0), 0));
        }

        int counts(int x) {
            note(50);
            return super.counts(x) ^ 5;
        }
    }

    private static class Turns extends Way {
        Turns(int kind, int number, int[] ran, int shift, int judge) {
            super(kind, number, ran, shift, judge);
        }

        int decide(Bench bench) {
            bench.orderFrom(shift);
            return bench.inTurns(openYes(bench));
        }

        /** What is yes where heads leave it open. */
        int openYes(Bench bench) {
            return 0;
        }

        int weighs(int x) {
            note(60);
            return -super.weighs(x);
        }

        int tells(int x) {
            note(61);
            return super.tells(x) + shift;
        }
    }

    private static final class Chair extends Turns {
        Chair(int kind, int number, int[] ran, int shift, int judge) {
            super(kind, number, ran, shift, judge);
        }

        int openYes(Bench bench) {
            return bench.hasJudge(judge) ? bench.yes[judge] : 0;
        }

        int placeOf(Bench trial, int rank) {
            // An odd number of judges leaves nothing open: then the chair isn't asked.
            boolean isAsked = judge < trial.judges && judge < trial.numbers.length && trial.judges % 2 == 0;
            return isAsked ? rank * trial.agenda.sets.length + trial.numbers[judge] : rank;
        }

        int binds(int x) {
            note(70);
            return super.binds(x + 1);
        }

        int weighs(int x) {
            note(71);
            return super.weighs(x) - judge;
        }
    }

    private static final class Leader extends Way {
        Leader(int kind, int number, int[] ran, int shift, int judge) {
            super(kind, number, ran, shift, judge);
        }

        int decide(Bench bench) {
            if (!bench.hasJudge(judge)) return 0;
            int told = bench.yes[judge] | bench.no[judge] << SHIFT;
            int implied = bench.agenda.implied(told);
            return implied < 0 ? told : implied;
        }

        int placeOf(Bench trial, int rank) {
            return judge < trial.judges && judge < trial.numbers.length ? trial.numbers[judge] : 0;
        }

        int tells(int x) {
            note(80);
            return super.tells(x) * 2 - super.binds(x);
        }
    }
}
