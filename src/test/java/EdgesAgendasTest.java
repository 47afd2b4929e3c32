/** The edges that the document names, promises 1 to 9: agendas and told answers. */
public final class EdgesAgendasTest {
    private static final String TEN = "q abcdefghij", ALL_TEN = "{a,b,c,d,e,f,g,h,i,j}";

    public static void main(String[] args) {
        newObject();
        feedTakesOneToFour();
        feedIsFull();
        feedTakesTheLowestFirst();
        eightAgendas();
        tapeOf160();
        partsOneOrMore();
        oneToTenLetters();
        premisesAndEnds();
        eightTies();
        digits();
        ifOnlyOnce();
        signsAlone();
        sixOpen();
        endsTooEarly();
        oneLawfulSet();
        of();
        lawful();
        broken();
        toldAnswers();
        stands();
        forced();
        why();
        Edges.end("edges of agendas");
    }

    // ---- 1 to 3: a new object, the tape

    private static void newObject() {
        Edges.says("1: No agendas, no ways.");
        for (int what = 0; what < 5; what++) {
            int w = what;
            Edges.due("count " + what, 0, Edges.EMPTY, x -> x.count(w));
        }
        for (int a : new int[] {-1, 0, 7}) newObjectHasNo(a);
        Edges.due("twin objects share nothing", 0, Edges.EMPTY, x -> {
            DoorBench other = Edges.with("q a");
            other.judge(0, 1, 0, 0);
            other.way(0, 0, 0);
            other.row(0, 0, 1);
            other.feed(1, 0);
            other.act(0, 0, 0);
            return x.count(0) + x.count(1) + x.count(2) + x.count(3) + x.count(4) + (x.taken(0, 0) == -11 ? 0 : 1);
        });
    }

    private static void newObjectHasNo(int a) {
        Edges.bad("of", Edges.EMPTY, x -> x.of(a, 0));
        Edges.bad("lawful", Edges.EMPTY, x -> x.lawful(a, 0));
        Edges.bad("broken", Edges.EMPTY, x -> x.broken(a, 0));
        Edges.bad("stands", Edges.EMPTY, x -> x.stands(a, 0, 0));
        Edges.bad("forced", Edges.EMPTY, x -> x.forced(a, 0, 0, 0));
        Edges.bad("why", Edges.EMPTY, x -> x.why(a, 0, 0));
        Edges.bad("judge", Edges.EMPTY, x -> x.judge(a, 1, 0, 0));
        Edges.bad("clear", Edges.EMPTY, x -> x.clear(a));
        Edges.bad("benches", Edges.EMPTY, x -> x.benches(a, 1));
        Edges.bad("keeper", Edges.EMPTY, x -> x.keeper(a, 1, 1));
        Edges.bad("mend", Edges.EMPTY, x -> x.mend(a, 1, 0));
        Edges.bad("ofWay", Edges.EMPTY, x -> x.ofWay(a, 0));
        Edges.bad("trace", Edges.EMPTY, x -> x.trace(a));
        Edges.refused("act", 0, Edges.EMPTY, x -> x.act(a, 0, 0));
    }

    private static void feedTakesOneToFour() {
        Edges.says("2: n (1 .. 4) bytes come to THE TAPE: how many it has. BAD");
        for (int n = 1; n <= 4; n++) {
            int m = n;
            Edges.due("feed " + n, n, Edges.EMPTY, x -> x.feed(m, 0));
            Edges.due("feed " + n + " behind eleven", 11 + n, Edges.USUAL, x -> x.feed(m, -1));
        }
        Edges.outside("feed", 1, 4, Edges.EMPTY, (x, n) -> x.feed(n, 'q'));
        Edges.outside("feed", 1, 4, Edges.USUAL, (x, n) -> x.feed(n, 'q'));
    }

    private static DoorBench tapeOf(int length) {
        DoorBench x = new DoorBench();
        for (int left = length; left > 0; left -= 4) x.feed(Math.min(left, 4), 'q');
        return x;
    }

    private static void feedIsFull() {
        Edges.says("1: THE TAPE (at most 160 bytes); 2: FULL");
        for (int n = 1; n <= 4; n++) {
            int m = n;
            Edges.due("feed " + n + " to 160", 160, () -> tapeOf(160 - m), x -> x.feed(m, 0));
            for (int over = 1; over <= n; over++) {
                int has = 160 - n + over;
                Edges.refused("feed " + n + " at " + has, Edges.FULL, () -> tapeOf(has), x -> x.feed(m, 0));
                Edges.due("what fits still comes", 160, () -> tapeOf(has), x -> {
                    x.feed(m, 0);
                    return has < 160 ? x.feed(160 - has, 0) : x.count(2);
                });
            }
        }
        Edges.says("2: BAD, FULL: of several the one named first");
        Edges.outside("feed at 160", 1, 4, Edges.FILLED, (x, n) -> x.feed(n, 0));
        Edges.says("3: THE TAPE is empty then");
        DoorBench y = tapeOf(160);
        Edges.due("agenda", -101, y.agenda());
        Edges.due("count", 0, y.count(2));
        Edges.due("feed", 4, y.feed(4, 0));
        Edges.due("agenda, empty again", -100, y.agenda());
        Edges.due("agenda of nothing", -100, y.agenda());
    }

    private static void feedTakesTheLowestFirst() {
        Edges.says("2: the lowest of v first");
        DoorBench x = new DoorBench();
        x.feed(1, 'q' | '!' << 8);
        x.feed(2, ' ' | 'b' << 8 | '!' << 16);
        x.feed(3, 'a' | ';' << 8 | 'p' << 16 | '!' << 24);
        x.feed(2, ' ' | 'a' << 8 | -1 << 16);
        Edges.due("agenda q ba;p a", 0, x.agenda());
        Edges.due("premises", 2, x.of(0, 2));
        // The highest of four has the sign: 225 is a letter's byte and 128, not a letter.
        x.feed(4, 'q' | ' ' << 8 | 'a' << 16 | ('b' + 128) << 24);
        Edges.due("agenda with a byte above 127", -103, x.agenda());
        x.feed(4, Edges.LEAST);
        Edges.due("agenda of 0, 0, 0, 128", -100, x.agenda());
    }

    // ---- 3: agendas

    private static void eightAgendas() {
        Edges.says("1: AGENDAS 0 .. 7; 3: FULL (THE TAPE stays)");
        DoorBench x = new DoorBench();
        for (int i = 0; i < 7; i++) Edges.due("agenda", i, Edges.tell(x, "q a"));
        Edges.due("agenda that can't be doesn't count", -1001, Edges.tell(x, "q a;t a&!a"));
        Edges.due("agenda with a fault doesn't count", -103, Edges.tell(x, "q a "));
        Edges.due("agenda 7", 7, Edges.tell(x, "q ab"));
        Edges.due("agenda 8", Edges.FULL, Edges.tell(x, "q abc"));
        Edges.due("agendas", 8, x.count(0));
        Edges.due("bytes", 5, x.count(2));
        Edges.due("agenda 8 again", Edges.FULL, x.agenda());
        Edges.due("bytes", 5, x.count(2));
        Edges.due("the tape goes on", 6, x.feed(1, 0));
        Edges.due("a fault on it", Edges.FULL, x.agenda());
        Edges.due("questions of 7", 2, x.of(7, 0));
        Edges.bad("of 8", Edges.FILLED, y -> y.of(8, 0));
        Edges.refused("agenda", Edges.FULL, Edges.FILLED, DoorBench::agenda);
    }

    /** An agenda of exactly so many bytes. */
    private static String agendaOf(int length) {
        String text = "q ab;t a";
        while (text.length() + 2 <= length) text += "|b";
        return text;
    }

    private static void tapeOf160() {
        Edges.says("1: as they are told by THE TAPE (at most 160 bytes)");
        String text = agendaOf(160);
        Edges.due("length", 160, text.length());
        DoorBench x = Edges.with(text);
        Edges.due("lawful sets of a | b", 3, x.of(0, 4));
        Edges.dueAgenda(text.substring(0, 159), -259);
        Edges.dueAgenda(text.substring(0, 159) + "c", -259);
        Edges.dueAgenda(text.substring(0, 158) + "b|", -258);
        Edges.dueAgenda(text.substring(0, 159) + "!", -260);
        Edges.dueAgenda(text.substring(0, 159) + "1", -260);
        // As many parts of one { } as there is room for; a chain of = as long.
        Edges.due("lawful of 1{..}", 2, Edges.with("q a;t 1{a" + Edges.repeat(",a", 73) + "}|!a").of(0, 4));
        Edges.due("lawful of a=a=..", 1, Edges.with("q a;t a" + Edges.repeat("=a", 76)).of(0, 4));
        Edges.due("lawful of a=a=.., one more", 2, Edges.with("q a;t a" + Edges.repeat("=a", 75)).of(0, 4));
    }

    private static void partsOneOrMore() {
        Edges.says("1: PARTS, parted by ; (one or more)");
        Edges.dueAgenda("q a", 0);
        Edges.dueAgenda("", -100);
        Edges.dueAgenda(";", -100);
        Edges.dueAgenda("q a;", -104);
        Edges.dueAgenda("q a;;t a", -104);
        Edges.dueAgenda("q a;t a;", -108);
        Edges.dueAgenda(";q a", -100);
        Edges.says("1: The first one: q; Others: p, e, t");
        for (String first : new String[] {"p a", "e a", "t a", " q a", "r a", "Q a"}) Edges.dueAgenda(first, -100);
        for (String other : new String[] {"q a", "r a", "P a", " t a", "u a", "o a"}) Edges.dueAgenda("q a;" + other, -104);
        Edges.says("1: a blank; Nothing else stands between.");
        Edges.dueAgenda("qa", -101);
        Edges.dueAgenda("q  a", -102);
        Edges.dueAgenda("q a ", -103);
        Edges.dueAgenda("q a;ta", -105);
        Edges.dueAgenda("q a;t  a", -106);
        Edges.dueAgenda("q a;t a ", -107);
        Edges.dueAgenda("q a;pa", -105);
        Edges.dueAgenda("q a;e  a", -106);
        Edges.dueAgenda("q a;p a ", -107);
        Edges.dueAgenda("q a;t ! a", -107);
        Edges.dueAgenda("q a;t 1 {a}", -107);
        Edges.dueAgenda("q a;t 1{ a}", -108);
        Edges.dueAgenda("q a;t (a )", -108);
    }

    private static void oneToTenLetters() {
        Edges.says("1: 1 to 10 letters a .. j, each once");
        Edges.dueAgenda("q ", -102);
        Edges.dueAgenda("q ;t a", -102);
        Edges.due("one question", 1, Edges.with("q j").of(0, 0));
        Edges.due("ten questions", 10, Edges.with(TEN).of(0, 0));
        Edges.dueAgenda("q k", -102);
        Edges.dueAgenda("q `", -102);
        Edges.dueAgenda("q abcdefghik", -111);
        Edges.dueAgenda("q abcdefghi`", -111);
        Edges.dueAgenda("q A", -102);
        for (char c = 'a'; c <= 'j'; c++) Edges.dueAgenda(TEN + c, -112);
        Edges.dueAgenda(TEN + "k", -112);
        Edges.dueAgenda("q aa", -103);
        Edges.dueAgenda("q abcdefghia", -111);
        Edges.says("1: numbered from 0 in that order");
        DoorBench x = Edges.with("q jaihgfedcb;t j&!b");
        Edges.due("the first of them", 1, x.lawful(0, 0));
        Edges.due("the last of them", 511, x.lawful(0, 255));
    }

    private static void premisesAndEnds() {
        Edges.says("1: p, a blank, letters: PREMISES (at most one such PART); e: ENDS (likewise");
        for (String part : new String[] {"p", "e"}) {
            String begin = TEN + ";" + part;
            int what = part.equals("p") ? 2 : 3;
            Edges.dueAgenda(begin, -114);
            Edges.dueAgenda(begin + " ", -115);
            Edges.dueAgenda(begin + " ;t a", -115);
            Edges.due("none", 0, Edges.with("q a").of(0, what));
            Edges.due("one", 512, Edges.with(begin + " j").of(0, what));
            Edges.due("all", 1023, Edges.with(begin + " jihgfedcba").of(0, what));
            Edges.dueAgenda("q a;" + part + " a;" + part + " a", -108);
            Edges.dueAgenda("q a;" + part + " a;t a;" + part + " a", -112);
            Edges.dueAgenda("q a;" + part + " a;" + part, -108);
            Edges.says("1: each letter of p and e a QUESTION, once in it");
            Edges.dueAgenda("q ac;" + part + " b", -107);
            Edges.dueAgenda("q ac;" + part + " ab", -108);
            Edges.dueAgenda("q ac;" + part + " `", -107);
            Edges.dueAgenda("q ac;" + part + " k", -107);
            Edges.dueAgenda("q ac;" + part + " aa", -108);
            Edges.dueAgenda("q ac;" + part + " aca", -109);
            Edges.dueAgenda(begin + " abcdefghijk", -125);
        }
        DoorBench x = Edges.with("q ab;e ba;p ab", "q ab;e a;t a;p a");
        Edges.due("premises that are ends", 3, x.of(0, 2));
        Edges.due("ends that are premises", 3, x.of(0, 3));
        Edges.due("p behind t", 1, x.of(1, 2));
    }

    private static void eightTies() {
        Edges.says("1: a TIE (at most 8; a ninth t");
        String eight = Edges.repeat(";t a", 8);
        Edges.due("no tie", 0, Edges.with("q a").of(0, 1));
        Edges.due("eight", 8, Edges.with("q a" + eight).of(0, 1));
        Edges.dueAgenda("q a" + eight + ";t a", -136);
        Edges.dueAgenda("q a" + eight + ";t", -136);
        Edges.dueAgenda("q a" + eight + ";", -136);
        Edges.dueAgenda("q a" + eight + ";p a;t a", -140);
        Edges.due("eight, p and e", 8, Edges.with("q a;p a" + eight + ";e a").of(0, 1));
        // With p, e and eight t nothing can follow; the byte behind ; is what the document names.
        Edges.dueAgenda("q a;p a" + eight + ";e a;p a", -144);
        Edges.dueAgenda("q a;p a" + eight + ";e a;e a", -144);
        Edges.dueAgenda("q a;p a" + eight + ";e a;t a", -144);
        Edges.says("1: numbered from 0 as they come");
        DoorBench x = Edges.with("q abcdefgh;t h;t g;t f;t e;t d;t c;t b;t a");
        for (int t = 0; t < 8; t++) Edges.due("tie " + t, 1 << t, x.broken(0, 255 & ~(1 << 7 - t)));
    }

    private static void digits() {
        Edges.says("1: k a digit 1 .. 9: at least k of them");
        Edges.dueAgenda("q a;t 0{a}", -106);
        Edges.dueAgenda("q a;t /{a}", -106);
        Edges.dueAgenda("q a;t :{a}", -106);
        Edges.dueAgenda("q a;t {a}", -106);
        Edges.dueAgenda("q a;t 11{a}", -107);
        for (int k = 1; k <= 9; k++) {
            DoorBench x = Edges.with(TEN + ";t " + k + ALL_TEN);
            Edges.due("just " + k + " yes", 0, x.broken(0, (1 << k) - 1));
            Edges.due("one less than " + k, 1, x.broken(0, (1 << k - 1) - 1));
            Edges.due("all yes", 0, x.broken(0, 1023));
        }
        Edges.says("1: as many T as there are, one at least");
        Edges.dueAgenda("q a;t 1{}", -108);
        Edges.dueAgenda("q a;t 1{,a}", -108);
        Edges.dueAgenda("q a;t 1{a,}", -110);
        Edges.dueAgenda("q a;t 1{a,,a}", -110);
        Edges.dueAgenda("q a;t 1{a}", 0);
        Edges.dueAgenda("q a;t 2{a}", -1001);
        Edges.dueAgenda("q a;t 9{a}", -1001);
        Edges.dueAgenda("q a;t 9{a,a,a,a,a,a,a,a}", -1001);
        Edges.due("nine of nine", 1, Edges.with("q a;t 9{a,a,a,a,a,a,a,a,a}").lawful(0, 0));
        Edges.due("nine in nine", 3, Edges.with("q ab;t 9{a,a,a,a,a,a,a,a,9{b,b,b,b,b,b,b,b,1{b}}}").lawful(0, 0));
        Edges.due("nine in nine, only that", 1, Edges.with("q ab;t 9{a,a,a,a,a,a,a,a,9{b,b,b,b,b,b,b,b,1{b}}}").of(0, 4));
        Edges.due("nine of seventy", 1, Edges.with("q a;t 9{a" + Edges.repeat(",a", 69) + "}").of(0, 4));
    }

    private static void ifOnlyOnce() {
        Edges.says("1: I = O, or O > O (if)");
        Edges.dueAgenda("q abc;t a>b>c", -111);
        Edges.dueAgenda("q abc;t a>", -110);
        Edges.dueAgenda("q abc;t >a", -108);
        Edges.dueAgenda("q abc;t a>b=b>c=c>a", 0);
        Edges.dueAgenda("q abc;t a>(b>c)", 0);
        Edges.says("1: T = I { = I } (exactly so: from the left)");
        DoorBench x = Edges.with("q abc;t a=b=c>a");
        // (a = b) = (c > a): of all no both sides hold.
        Edges.due("all no", 0, x.broken(0, 0));
        Edges.due("a alone", 1, x.broken(0, 1));
        Edges.due("c alone", 1, x.broken(0, 4));
        Edges.due("b and c", 0, x.broken(0, 6));
    }

    private static void signsAlone() {
        Edges.says("1: FAULT: the first byte with which no AGENDA goes on (a letter that is no QUESTION");
        for (char c = 0; c < 256; c++) {
            if (c == 'a' || c == '!' || c == '(' || c >= '1' && c <= '9') continue;
            Edges.dueAgenda("q a;t " + c + "a", -106);
        }
        for (char c = 0; c < 256; c++) {
            if (c == '=' || c == '>' || c == '|' || c == '&' || c == ';') continue;
            Edges.dueAgenda("q a;t a" + c + "a", -107);
        }
        for (char c = 0; c < 256; c++) {
            if (c == 'p' || c == 'e' || c == 't') continue;
            Edges.dueAgenda("q a;" + c + " a", -104);
        }
        for (char c = 0; c < 256; c++) if (c != ';' && c != 'b') Edges.dueAgenda("q ab;p a" + c + "t a", -108);
    }

    private static void sixOpen() {
        Edges.says("1: At most 6 of ( { ! are open at once.");
        Edges.dueAgenda("q a;t " + Edges.repeat("!", 6) + "a", 0);
        Edges.dueAgenda("q a;t " + Edges.repeat("!", 7) + "a", -112);
        Edges.dueAgenda("q a;t " + Edges.repeat("(", 6) + "a" + Edges.repeat(")", 6), 0);
        Edges.dueAgenda("q a;t " + Edges.repeat("(", 7) + "a" + Edges.repeat(")", 7), -112);
        Edges.dueAgenda("q a;t " + Edges.repeat("1{", 6) + "a" + Edges.repeat("}", 6), 0);
        Edges.dueAgenda("q a;t " + Edges.repeat("1{", 7) + "a" + Edges.repeat("}", 7), -118);
        String[] five = {"!!!!!", "(((((", "1{1{1{1{1{", "!(1{!("};
        String[] closing = {"", ")))))", "}}}}}", ")})"};
        for (int i = 0; i < five.length; i++) {
            String begin = "q a;t " + five[i];
            int behind = -100 - begin.length();
            // The sixth may be any of the three, the seventh none.
            Edges.dueAgenda(begin + "!a" + closing[i], 0);
            Edges.dueAgenda(begin + "(a)" + closing[i], 0);
            Edges.dueAgenda(begin + "1{a}" + closing[i], 0);
            Edges.dueAgenda(begin + "!!a" + closing[i], behind - 1);
            Edges.dueAgenda(begin + "((a))" + closing[i], behind - 1);
            Edges.dueAgenda(begin + "1{(a)}" + closing[i], behind - 2);
            // Only { could follow a digit here: the digit is what no agenda goes on with.
            Edges.dueAgenda(begin + "(9{a})" + closing[i], behind - 1);
            Edges.dueAgenda(begin + "!1", behind - 1);
            // What is closed isn't open any more: ! with its operand, brackets with their like.
            Edges.dueAgenda(begin + "!a&!a|(a)&1{a,a}|!a=1{a}>(a)" + closing[i], 0);
        }
    }

    /** The agendas among the beginnings of a text, each by its length. */
    private static void dueBeginnings(String text, int... agendas) {
        int next = 0;
        for (int length = 0; length <= text.length(); length++) {
            boolean is = next < agendas.length && agendas[next] == length;
            if (is) next++;
            Edges.dueAgenda(text.substring(0, length), is ? 0 : -100 - length);
        }
    }

    private static void endsTooEarly() {
        Edges.says("1: the length, if it ends too early");
        // Agendas end behind a letter, a closing sign, and nowhere else.
        dueBeginnings("q abc;p ab;e c;t a>b|!c&a;t (a)", 3, 4, 5, 9, 10, 14, 18, 20, 23, 25, 31);
        dueBeginnings("q ab;t 2{a,b=(a>1{b})};t !!a", 3, 4, 22, 28);
    }

    private static void oneLawfulSet() {
        Edges.says("1: An AGENDA must have one; else it is none: told the smallest part of its TIES");
        Edges.due("one lawful set", 1, Edges.with(TEN + ";t !1" + ALL_TEN).of(0, 4));
        Edges.due("all are lawful", 1024, Edges.with(TEN).of(0, 4));
        Edges.dueAgenda("q a;t a&!a", -1001);
        Edges.dueAgenda("q a;t !a;t a", -1003);
        Edges.dueAgenda("q a;t a;t a;t a;t a;t a;t a;t a;t a&!a", -1128);
        Edges.dueAgenda("q abcdefg;t a;t b;t c;t d;t e;t f;t g;t !7{a,b,c,d,e,f,g}", -1255);
        Edges.says("1: (fewest, then the least as bits)");
        Edges.dueAgenda("q ab;t a;t b;t !7{a,a};t !(a&b);t !a;t a", -1017);
        Edges.dueAgenda("q ab;t b;t a;t !a;t !b", -1006);
        Edges.dueAgenda("q ab;t b;t a;t !b;t !a", -1005);
        Edges.says("3: -1000 less the TIES (bits) that can't all be; THE TAPE is empty then");
        DoorBench x = Edges.with("q a");
        Edges.due("agenda", -1003, Edges.tell(x, "q a;t a;t !a"));
        Edges.due("agendas", 1, x.count(0));
        Edges.due("bytes", 0, x.count(2));
        Edges.due("the next number", 1, Edges.tell(x, "q a"));
        Edges.says("3: -100 less its FAULT; THE TAPE is empty then");
        Edges.due("agenda", -102, Edges.tell(x, "q "));
        Edges.due("agendas", 2, x.count(0));
        Edges.due("bytes", 0, x.count(2));
        Edges.due("the next number", 2, Edges.tell(x, "q a"));
    }

    // ---- 4 to 6

    private static void of() {
        Edges.says("4: 0 QUESTIONS .. 5 JUDGES. BAD.");
        Edges.inside("of 0", 0, 3, 5, 4, Edges.USUAL, (x, what) -> x.of(0, what));
        Edges.inside("of a, 4", 0, 4, 5, 128, Edges.USUAL, (x, a) -> x.of(a, 4));
        Edges.outside("of 0", 0, 5, Edges.USUAL, (x, what) -> x.of(0, what));
        Edges.outside("of a, 0", 0, 5, Edges.USUAL, (x, a) -> x.of(a, 0));
        Edges.outside("of a, 0", 0, 7, Edges.FILLED, (x, a) -> x.of(a, 0));
        Edges.due("nine judges", 9, Edges.FILLED, x -> x.of(7, 5));
    }

    private static void lawful() {
        Edges.says("5: LAWFUL SET i. BAD; 1: the first one is LAWFUL 0");
        Edges.inside("lawful 0", 0, 0, 3, 7, Edges.USUAL, (x, i) -> x.lawful(0, i));
        Edges.outside("lawful 0", 0, 3, Edges.USUAL, (x, i) -> x.lawful(0, i));
        Edges.outside("lawful 5", 0, 127, Edges.USUAL, (x, i) -> x.lawful(5, i));
        Edges.outside("lawful of a", 0, 5, Edges.USUAL, (x, a) -> x.lawful(a, 0));
        DoorBench x = Edges.with(TEN, "q a;t a", TEN + ";t 9" + ALL_TEN + ";t !j");
        Edges.due("the first of 1024", 0, x.lawful(0, 0));
        Edges.due("the last of 1024", 1023, x.lawful(0, 1023));
        Edges.due("behind the last of 1024", Edges.BAD, x.lawful(0, 1024));
        for (int i : new int[] {63, 64, 511, 512}) Edges.due("lawful " + i, i, x.lawful(0, i));
        Edges.due("the only one", 1, x.lawful(1, 0));
        Edges.due("behind the only one", Edges.BAD, x.lawful(1, 1));
        Edges.due("the only one of ten", 511, x.lawful(2, 0));
        Edges.due("behind the only one of ten", Edges.BAD, x.lawful(2, 1));
    }

    private static void broken() {
        Edges.says("6: a SET (bits of all QUESTIONS). BAD");
        Edges.inside("broken 0", 0, 0, 7, 0, Edges.USUAL, (x, set) -> x.broken(0, set));
        Edges.outside("broken 0", 0, 7, Edges.USUAL, (x, set) -> x.broken(0, set));
        Edges.outside("broken 5", 0, 127, Edges.USUAL, (x, set) -> x.broken(5, set));
        Edges.outside("broken of a", 0, 5, Edges.USUAL, (x, a) -> x.broken(a, 0));
        DoorBench x = Edges.with(TEN + ";t j;t j;t j;t j;t j;t j;t j;t a", TEN);
        Edges.due("all eight", 255, x.broken(0, 0));
        Edges.due("the last one", 128, x.broken(0, 512));
        Edges.due("none", 0, x.broken(0, 1023));
        Edges.due("there is none", 0, x.broken(1, 1023));
        Edges.due("1024", Edges.BAD, x.broken(1, 1024));
    }

    // ---- 7 to 9: told answers

    private interface Told {
        long on(DoorBench x, int agenda, int yes, int no);
    }

    private static void dueBad(String call, Told told) {
        Edges.outside(call + ", agenda", 0, 5, Edges.USUAL, (x, a) -> told.on(x, a, 0, 0));
        for (int a : new int[] {0, 5}) {
            int all = a == 0 ? 7 : 127;
            Edges.outside(call + ", yes", 0, all, Edges.USUAL, (x, yes) -> told.on(x, a, yes, 0));
            Edges.outside(call + ", no", 0, all, Edges.USUAL, (x, no) -> told.on(x, a, 0, no));
            for (int bit = 0; bit < 32; bit++) {
                int one = 1 << bit;
                // One is both; or it is no question's at all.
                Edges.bad(call + ", bit " + bit, Edges.USUAL, x -> told.on(x, a, one, one));
                if (one > all || one < 0) Edges.bad(call + ", yes bit " + bit, Edges.USUAL, x -> told.on(x, a, one, 0));
                if (one > all || one < 0) Edges.bad(call + ", no bit " + bit, Edges.USUAL, x -> told.on(x, a, 0, one));
            }
            Edges.bad(call + ", all both", Edges.USUAL, x -> told.on(x, a, all, all));
            Edges.bad(call + ", the last both", Edges.USUAL, x -> told.on(x, a, all, all + 1 >> 1));
        }
    }

    private static void toldAnswers() {
        Edges.says("2: yes ones, no ones (none both); 7 to 11: BAD (also: one is both)");
        dueBad("stands", (x, a, yes, no) -> x.stands(a, yes, no));
        dueBad("forced", (x, a, yes, no) -> x.forced(a, yes, no, 0));
        dueBad("why", (x, a, yes, no) -> x.why(a, yes, no));
        dueBad("judge", (x, a, yes, no) -> x.judge(a, 1, yes, no));
        dueBad("change", (x, a, yes, no) -> x.change(a, 0, yes, no));
    }

    private static void stands() {
        Edges.says("7: Whether TOLD ANSWERS CAN STAND (1, 0).");
        DoorBench x = Edges.with(Edges.AND, TEN + ";t 9" + ALL_TEN + ";t !j", TEN);
        Edges.due("nothing told", 1, x.stands(0, 0, 0));
        Edges.due("all yes", 1, x.stands(0, 7, 0));
        Edges.due("all no", 1, x.stands(0, 0, 7));
        Edges.due("all told, and wrong", 0, x.stands(0, 3, 4));
        Edges.due("ten told", 1, x.stands(1, 511, 512));
        Edges.due("the tenth is wrong", 0, x.stands(1, 512, 0));
        Edges.due("the first is wrong", 0, x.stands(1, 0, 1));
        Edges.due("all of ten yes", 1, x.stands(2, 1023, 0));
        Edges.due("all of ten no", 1, x.stands(2, 0, 1023));
    }

    private static void forced() {
        Edges.says("8: FORCED: 1, 0, -2 (NOT): it is not, -3: they CAN'T STAND. BAD.");
        Edges.inside("forced 0, 4, 0", 0, 1, 2, 1, Edges.USUAL, (x, q) -> x.forced(0, 4, 0, q));
        Edges.inside("forced 5, 0, 0", 0, Edges.NOT, 6, Edges.NOT, Edges.USUAL, (x, q) -> x.forced(5, 0, 0, q));
        Edges.outside("forced 0, question", 0, 2, Edges.USUAL, (x, q) -> x.forced(0, 0, 0, q));
        Edges.outside("forced 5, question", 0, 6, Edges.USUAL, (x, q) -> x.forced(5, 0, 0, q));
        Edges.outside("forced by what can't stand, question", 0, 2, Edges.USUAL, (x, q) -> x.forced(0, 3, 4, q));
        Edges.refused("forced by what can't stand", -3, Edges.USUAL, x -> x.forced(0, 3, 4, 2));
        Edges.refused("forced not", Edges.NOT, Edges.USUAL, x -> x.forced(0, 1, 0, 2));
        DoorBench x = Edges.with("q a;t a", "q a;t !a", "q a", TEN + ";t j=!i");
        Edges.due("by nothing: yes", 1, x.forced(0, 0, 0, 0));
        Edges.due("by nothing: no", 0, x.forced(1, 0, 0, 0));
        Edges.due("by nothing: not", Edges.NOT, x.forced(2, 0, 0, 0));
        Edges.due("told yes itself", 1, x.forced(2, 1, 0, 0));
        Edges.due("told no itself", 0, x.forced(2, 0, 1, 0));
        Edges.due("against what is forced", -3, x.forced(0, 0, 1, 0));
        Edges.due("the tenth", 1, x.forced(3, 0, 256, 9));
        Edges.due("the ninth", 0, x.forced(3, 512, 0, 8));
    }

    private static void why() {
        Edges.says("9: The smallest part of them that CAN'T STAND: 1024 times the no ones, and the yes ones; NOT: they CAN.");
        Edges.refused("why nothing", Edges.NOT, Edges.USUAL, x -> x.why(0, 0, 0));
        Edges.refused("why all yes", Edges.NOT, Edges.USUAL, x -> x.why(0, 7, 0));
        Edges.refused("why all told", 4 * 1024 + 3, Edges.USUAL, x -> x.why(0, 3, 4));
        DoorBench x = Edges.with(TEN + ";t 1" + ALL_TEN, TEN + ";t !(9" + ALL_TEN + "&a&b&c&d&e&f&g&h&i&j)",
            TEN + ";t a|j", TEN + ";t !(a&j)", TEN + ";t !a|!i|j;t b>i;t !(c&d)", "q a;t a", "q abcd;t a=b;t c=d");
        Edges.due("all ten no", 1023 * 1024, x.why(0, 0, 1023));
        Edges.due("all ten yes", 1023, x.why(1, 1023, 0));
        Edges.due("first and last no", 513 * 1024, x.why(2, 0, 1023));
        Edges.due("first and last yes", 513, x.why(3, 1023, 0));
        Edges.due("one of one", 1024, x.why(5, 0, 1));
        Edges.says("2: fewest; then the least by bits: no ones times 1024, and yes ones");
        // No i and yes b; yes c, d: both two, no ones count most. a, i and no j are three.
        Edges.due("yes ones alone", 12, x.why(4, 1 + 2 + 4 + 8, 256 + 512));
        Edges.due("two are fewer", 256 * 1024 + 2, x.why(4, 1 + 2, 256 + 512));
        Edges.due("three", 512 * 1024 + 1 + 256, x.why(4, 1 + 4 + 256, 512));
        // b does as well as i, and is less.
        Edges.due("the least three", 512 * 1024 + 1 + 2, x.why(4, 1 + 2 + 256, 512));
        // a and no b, or c and no d: b is less than d.
        Edges.due("the least no", 2 * 1024 + 1, x.why(6, 1 + 4, 2 + 8));
        Edges.due("the least no, by b and c", 1 * 1024 + 2, x.why(6, 2 + 4, 1 + 8));
        Edges.due("no ones first", 1 * 1024 + 2, x.why(6, 2 + 8, 1 + 4));
    }
}
