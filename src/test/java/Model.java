import java.util.ArrayList;
import java.util.Arrays;
import java.util.List;

/**
 * A second DoorBench, written straight from the document and as slowly as it likes: answers are
 * rows of 1 (yes), 0 (no), -1 (silent, open), ties are trees, and everything is gone through.
 */
final class Model {
    static final int BAD = -1, NOT = -2, FULL = -3, BIG = -4;

    /** A tie's tree: what sort of node ('q', '!', '&', '|', '>', '=', 'k'), a number, and parts. */
    static final class Node {
        final char sort;
        final int number;
        final List<Node> parts = new ArrayList<>();

        Node(char sort, int number, Node... parts) {
            this.sort = sort;
            this.number = number;
            this.parts.addAll(Arrays.asList(parts));
        }

        boolean holds(int set) {
            switch (sort) {
                case 'q': return (set >> number) % 2 == 1;
                case '!': return !parts.get(0).holds(set);
                case '&': return parts.get(0).holds(set) && parts.get(1).holds(set);
                case '|': return parts.get(0).holds(set) || parts.get(1).holds(set);
                case '>': return !parts.get(0).holds(set) || parts.get(1).holds(set);
                case '=': return parts.get(0).holds(set) == parts.get(1).holds(set);
                default:
                    int many = 0;
                    for (Node part : parts) if (part.holds(set)) many++;
                    return many >= number;
            }
        }
    }

    static final class NoAgenda extends RuntimeException {
    }

    /** Takes a whole text for an agenda or refuses it; where the fault is, it can't tell. */
    static final class Reader {
        final String text;
        int at;
        String questions = "";
        String premises, ends;
        final List<Node> ties = new ArrayList<>();

        Reader(String text) {
            this.text = text;
            String[] parts = text.split(";", -1);
            if (!parts[0].matches("q [a-j]+") || repeats(parts[0].substring(2))) throw new NoAgenda();
            questions = parts[0].substring(2);
            for (int i = 1; i < parts.length; i++) {
                String part = parts[i];
                if (part.length() < 3 || part.charAt(1) != ' ') throw new NoAgenda();
                String rest = part.substring(2);
                switch (part.charAt(0)) {
                    case 'p':
                        if (premises != null || !allQuestions(rest)) throw new NoAgenda();
                        premises = rest;
                        break;
                    case 'e':
                        if (ends != null || !allQuestions(rest)) throw new NoAgenda();
                        ends = rest;
                        break;
                    case 't':
                        ties.add(tie(rest, 0));
                        if (ties.size() > 8) throw new NoAgenda();
                        break;
                    default:
                        throw new NoAgenda();
                }
            }
        }

        static boolean repeats(String s) {
            return s.chars().distinct().count() != s.length();
        }

        boolean allQuestions(String s) {
            for (char c : s.toCharArray()) if (questions.indexOf(c) < 0) return false;
            return !repeats(s);
        }

        /** The pieces of s between the signs that stand in no bracket. */
        static List<String> split(String s, char sign) {
            List<String> pieces = new ArrayList<>();
            int depth = 0, from = 0;
            for (int i = 0; i < s.length(); i++) {
                char c = s.charAt(i);
                if (c == '(' || c == '{') depth++;
                if (c == ')' || c == '}') depth--;
                if (c == sign && depth == 0) {
                    pieces.add(s.substring(from, i));
                    from = i + 1;
                }
            }
            pieces.add(s.substring(from));
            return pieces;
        }

        Node tie(String s, int open) {
            List<String> pieces = split(s, '=');
            Node left = condition(pieces.get(0), open);
            for (int i = 1; i < pieces.size(); i++) left = new Node('=', 0, left, condition(pieces.get(i), open));
            return left;
        }

        Node condition(String s, int open) {
            List<String> pieces = split(s, '>');
            if (pieces.size() > 2) throw new NoAgenda();
            Node left = chain(pieces.get(0), '|', open);
            return pieces.size() == 1 ? left : new Node('>', 0, left, chain(pieces.get(1), '|', open));
        }

        Node chain(String s, char sign, int open) {
            Node left = null;
            for (String piece : split(s, sign)) {
                Node right = sign == '|' ? chain(piece, '&', open) : simple(piece, open);
                left = left == null ? right : new Node(sign, 0, left, right);
            }
            return left;
        }

        Node simple(String s, int open) {
            if (s.isEmpty()) throw new NoAgenda();
            char c = s.charAt(0);
            if (s.length() == 1 && questions.indexOf(c) >= 0) return new Node('q', questions.indexOf(c));
            if (open == 6) throw new NoAgenda();
            char end = s.charAt(s.length() - 1);
            if (c == '!') return new Node('!', 0, simple(s.substring(1), open + 1));
            if (c == '(' && end == ')' && isOneBracket(s)) return tie(s.substring(1, s.length() - 1), open + 1);
            if (c >= '1' && c <= '9' && s.length() > 2 && s.charAt(1) == '{' && end == '}' && isOneBracket(s.substring(1))) {
                Node node = new Node('k', c - '0');
                for (String piece : split(s.substring(2, s.length() - 1), ',')) node.parts.add(tie(piece, open + 1));
                return node;
            }
            throw new NoAgenda();
        }

        /** Whether the bracket that opens s is closed by its like, at its very end. */
        static boolean isOneBracket(String s) {
            StringBuilder open = new StringBuilder();
            for (int i = 0; i < s.length(); i++) {
                char c = s.charAt(i);
                if (c == '(' || c == '{') open.append(c == '(' ? ')' : '}');
                if (c == ')' || c == '}') {
                    if (open.length() == 0 || open.charAt(open.length() - 1) != c) return false;
                    open.setLength(open.length() - 1);
                    if (open.length() == 0) return i == s.length() - 1;
                }
            }
            return false;
        }
    }

    static boolean isAgenda(String text) {
        try {
            new Reader(text);
            return true;
        } catch (NoAgenda e) {
            return false;
        }
    }

    /** Whether some agenda begins so: some short ends are tried, with all brackets closed. */
    static boolean canGoOn(String begin) {
        // The document names the letters behind it as the faults (a second p or e, a ninth t), never this sign.
        if (begin.endsWith(";") && isAgenda(begin.substring(0, begin.length() - 1))) return true;
        StringBuilder close = new StringBuilder();
        for (char c : begin.toCharArray()) {
            if (c == '(') close.insert(0, ')');
            if (c == '{') close.insert(0, '}');
            if ((c == ')' || c == '}') && close.length() > 0) close.deleteCharAt(0);
        }
        for (String lead : new String[] {"", "q ", " ", "p ", "e ", "t ", "{"}) {
            String closing = lead.equals("{") ? "}" + close : close.toString();
            if (isAgenda(begin + lead + closing)) return true;
            for (char c = 'a'; c <= 'j'; c++) if (isAgenda(begin + lead + c + closing)) return true;
        }
        return false;
    }

    static int faultOf(String text) {
        for (int i = 1; i <= text.length(); i++) if (!canGoOn(text.substring(0, i))) return i - 1;
        return isAgenda(text) ? -1 : text.length();
    }

    static final class Judge {
        final int weight;
        int[] answers;

        Judge(int weight, int[] answers) {
            this.weight = weight;
            this.answers = answers;
        }
    }

    static final class Agenda {
        int questions;
        int premises, ends;
        List<Node> ties = new ArrayList<>();
        List<Integer> lawful = new ArrayList<>();
        List<Judge> bench = new ArrayList<>();

        void findLawful() {
            lawful.clear();
            for (int set = 0; set < 1 << questions; set++) {
                boolean all = true;
                for (Node tie : ties) all &= tie.holds(set);
                if (all) lawful.add(set);
            }
        }

        boolean isOk(int yes, int no) {
            int all = (1 << questions) - 1;
            return yes >= 0 && yes <= all && no >= 0 && no <= all && (yes & no) == 0;
        }

        int[] answers(int yes, int no) {
            int[] row = new int[questions];
            for (int q = 0; q < questions; q++) row[q] = (yes >> q & 1) == 1 ? 1 : (no >> q & 1) == 1 ? 0 : -1;
            return row;
        }

        int[] full(int set) {
            return answers(set, ~set);
        }

        boolean has(int set, int[] told) {
            for (int q = 0; q < questions; q++) if (told[q] >= 0 && told[q] != (set >> q & 1)) return false;
            return true;
        }

        boolean canStand(int[] told) {
            for (int set : lawful) if (has(set, told)) return true;
            return false;
        }

        /** 1, 0, -1; only where told can stand. */
        int forced(int[] told, int q) {
            boolean yes = false, no = false;
            for (int set : lawful) {
                if (!has(set, told)) continue;
                if ((set >> q & 1) == 1) yes = true;
                else no = true;
            }
            return yes && !no ? 1 : no && !yes ? 0 : -1;
        }

        int byHeads(List<Judge> judges, int q) {
            int sum = 0;
            for (Judge j : judges) if (j.answers[q] >= 0) sum += j.answers[q] == 1 ? j.weight : -j.weight;
            return sum > 0 ? 1 : sum < 0 ? 0 : -1;
        }

        int far(List<Judge> judges, int set) {
            int sum = 0;
            for (Judge j : judges) {
                for (int q = 0; q < questions; q++) {
                    if (j.answers[q] >= 0 && j.answers[q] != (set >> q & 1)) sum += j.weight;
                }
            }
            return sum;
        }

        int nearestHaving(List<Judge> judges, int[] told) {
            int best = -1;
            for (int set : lawful) {
                if (has(set, told) && (best < 0 || far(judges, set) < far(judges, best))) best = set;
            }
            return best;
        }

        int[] inTurns(List<Judge> judges, int[] order, int chair) {
            int[] out = answers(0, 0);
            for (int q : order) {
                int answer = forced(out, q);
                if (answer < 0) answer = byHeads(judges, q);
                if (answer < 0) answer = chair >= 0 && chair < judges.size() && judges.get(chair).answers[q] == 1 ? 1 : 0;
                out[q] = answer;
            }
            return out;
        }

        List<Judge> benchOf(int[] numbers) {
            List<Judge> judges = new ArrayList<>();
            for (int number : numbers) judges.add(new Judge(1, full(lawful.get(number))));
            return judges;
        }

        /** All benches of n, each as a row of lawful numbers. */
        List<int[]> allBenches(int n) {
            List<int[]> all = new ArrayList<>();
            int[] row = new int[n];
            addBenches(all, row, 0, 0);
            return all;
        }

        private void addBenches(List<int[]> all, int[] row, int place, int least) {
            if (place == row.length) {
                all.add(row.clone());
                return;
            }
            for (int number = least; number < lawful.size(); number++) {
                row[place] = number;
                addBenches(all, row, place + 1, number);
            }
        }

        List<int[]> allRows(int n) {
            List<int[]> all = new ArrayList<>();
            int many = (int) Math.round(Math.pow(lawful.size(), n));
            for (int r = 0; r < many; r++) {
                int[] row = new int[n];
                int rest = r;
                for (int j = n - 1; j >= 0; j--) {
                    row[j] = rest % lawful.size();
                    rest /= lawful.size();
                }
                all.add(row);
            }
            return all;
        }
    }

    static final class Way {
        int kind, s, c;

        int[] outcome(Agenda a, List<Judge> judges) {
            int[] out = a.answers(0, 0);
            switch (kind) {
                case 1:
                    for (int q = 0; q < a.questions; q++) out[q] = a.byHeads(judges, q);
                    return out;
                case 2: {
                    for (int q = 0; q < a.questions; q++) if ((a.premises >> q & 1) == 1) out[q] = a.byHeads(judges, q);
                    int[] told = out.clone();
                    if (a.canStand(told)) {
                        for (int q = 0; q < a.questions; q++) if ((a.premises >> q & 1) == 0) out[q] = a.forced(told, q);
                    }
                    return out;
                }
                case 3: {
                    for (int q = 0; q < a.questions; q++) if ((a.ends >> q & 1) == 1) out[q] = a.byHeads(judges, q);
                    int set = a.nearestHaving(judges, out);
                    if (set >= 0) {
                        for (int q = 0; q < a.questions; q++) if ((a.ends >> q & 1) == 0) out[q] = set >> q & 1;
                    }
                    return out;
                }
                case 4:
                    return a.full(a.nearestHaving(judges, out));
                case 5:
                case 6: {
                    int[] order = new int[a.questions];
                    for (int i = 0; i < a.questions; i++) order[i] = (s + i) % a.questions;
                    return a.inTurns(judges, order, kind == 6 ? c : -1);
                }
                case 7:
                    if (c >= judges.size()) return out;
                    for (int q = 0; q < a.questions; q++) {
                        int own = judges.get(c).answers[q];
                        out[q] = own >= 0 ? own : a.forced(judges.get(c).answers, q);
                    }
                    return out;
                default:
                    return out;
            }
        }
    }

    static final class Row {
        final int sort;
        final long[] elements;

        Row(int sort, int n) {
            this.sort = sort;
            elements = new long[n];
        }
    }

    final StringBuilder tape = new StringBuilder();
    final List<Agenda> agendas = new ArrayList<>();
    final List<Way> ways = new ArrayList<>();
    /** Null, a Way, or a Row. */
    final Object[] shelves = new Object[6];
    final List<Integer> trace = new ArrayList<>();

    Agenda agendaAt(int i) {
        return i < 0 || i >= agendas.size() ? null : agendas.get(i);
    }

    Way wayAt(int i) {
        return i < 0 || i >= ways.size() ? null : ways.get(i);
    }

    static int bits(int[] answers, int which) {
        int sum = 0;
        for (int q = 0; q < answers.length; q++) if (answers[q] == which) sum |= 1 << q;
        return sum;
    }

    int feed(int n, int v) {
        if (n < 1 || n > 4) return BAD;
        if (tape.length() + n > 160) return FULL;
        for (int i = 0; i < n; i++) tape.append((char) (v >> 8 * i & 255));
        return tape.length();
    }

    int agenda() {
        if (agendas.size() == 8) return FULL;
        String text = tape.toString();
        tape.setLength(0);
        int fault = faultOf(text);
        if (fault >= 0) return -100 - fault;
        Reader reader = new Reader(text);
        Agenda a = new Agenda();
        a.questions = reader.questions.length();
        if (reader.premises != null) for (char c : reader.premises.toCharArray()) a.premises |= 1 << reader.questions.indexOf(c);
        if (reader.ends != null) for (char c : reader.ends.toCharArray()) a.ends |= 1 << reader.questions.indexOf(c);
        a.ties = reader.ties;
        a.findLawful();
        if (a.lawful.isEmpty()) return -1000 - impossible(a);
        agendas.add(a);
        return agendas.size() - 1;
    }

    static int impossible(Agenda a) {
        for (int size = 1; size <= a.ties.size(); size++) {
            for (int part = 0; part < 1 << a.ties.size(); part++) {
                if (Integer.bitCount(part) == size && without(a, ~part).lawful.isEmpty()) return part;
            }
        }
        throw new IllegalStateException();
    }

    static Agenda without(Agenda a, int dropped) {
        Agenda b = new Agenda();
        b.questions = a.questions;
        for (int t = 0; t < a.ties.size(); t++) if ((dropped >> t & 1) == 0) b.ties.add(a.ties.get(t));
        b.findLawful();
        return b;
    }

    int of(int agenda, int what) {
        Agenda a = agendaAt(agenda);
        if (a == null || what < 0 || what > 5) return BAD;
        return new int[] {a.questions, a.ties.size(), a.premises, a.ends, a.lawful.size(), a.bench.size()}[what];
    }

    int lawful(int agenda, int i) {
        Agenda a = agendaAt(agenda);
        return a == null || i < 0 || i >= a.lawful.size() ? BAD : a.lawful.get(i);
    }

    int broken(int agenda, int set) {
        Agenda a = agendaAt(agenda);
        if (a == null || set < 0 || set >= 1 << a.questions) return BAD;
        int sum = 0;
        for (int t = 0; t < a.ties.size(); t++) if (!a.ties.get(t).holds(set)) sum |= 1 << t;
        return sum;
    }

    int stands(int agenda, int yes, int no) {
        Agenda a = agendaAt(agenda);
        if (a == null || !a.isOk(yes, no)) return BAD;
        return a.canStand(a.answers(yes, no)) ? 1 : 0;
    }

    int forced(int agenda, int yes, int no, int question) {
        Agenda a = agendaAt(agenda);
        if (a == null || !a.isOk(yes, no) || question < 0 || question >= a.questions) return BAD;
        if (!a.canStand(a.answers(yes, no))) return -3;
        int f = a.forced(a.answers(yes, no), question);
        return f < 0 ? NOT : f;
    }

    int why(int agenda, int yes, int no) {
        Agenda a = agendaAt(agenda);
        if (a == null || !a.isOk(yes, no)) return BAD;
        if (a.canStand(a.answers(yes, no))) return NOT;
        int best = -1;
        for (int y = 0; y <= yes; y++) {
            if ((y & yes) != y) continue;
            for (int n = 0; n <= no; n++) {
                if ((n & no) != n || a.canStand(a.answers(y, n))) continue;
                int told = n * 1024 + y, size = Integer.bitCount(told);
                if (best < 0 || size < Integer.bitCount(best) || size == Integer.bitCount(best) && told < best) best = told;
            }
        }
        return best;
    }

    int judge(int agenda, int weight, int yes, int no) {
        Agenda a = agendaAt(agenda);
        if (a == null || weight < 1 || weight > 9 || !a.isOk(yes, no)) return BAD;
        if (!a.canStand(a.answers(yes, no))) return NOT;
        if (a.bench.size() == 9) return FULL;
        a.bench.add(new Judge(weight, a.answers(yes, no)));
        return a.bench.size() - 1;
    }

    Judge judgeAt(Agenda a, int j) {
        return a == null || j < 0 || j >= a.bench.size() ? null : a.bench.get(j);
    }

    int change(int agenda, int judge, int yes, int no) {
        Agenda a = agendaAt(agenda);
        Judge j = judgeAt(a, judge);
        if (j == null || !a.isOk(yes, no)) return BAD;
        if (!a.canStand(a.answers(yes, no))) return NOT;
        j.answers = a.answers(yes, no);
        return 1;
    }

    int read(int agenda, int judge, int shelf, int i) {
        Agenda a = agendaAt(agenda);
        Judge j = judgeAt(a, judge);
        if (j == null || shelf < 0 || shelf > 5) return BAD;
        Object held = shelves[shelf];
        if (held instanceof Way || held instanceof Row && ((Row) held).sort != 4) return -12;
        int[] told = a.answers(0, 0);
        int many = 0;
        try {
            boolean[] row = null;
            if (held != null) {
                row = new boolean[((Row) held).elements.length];
                for (int k = 0; k < row.length; k++) row[k] = ((Row) held).elements[k] != 0;
            }
            for (int q = 0; q < a.questions; q++) {
                told[q] = row[i + q] ? 1 : 0;
                many++;
            }
        } catch (NullPointerException | ArrayIndexOutOfBoundsException e) {
            // Missing, or at its end: silent on what is behind.
        }
        if (!a.canStand(told)) return NOT;
        j.answers = told;
        return many;
    }

    int clear(int agenda) {
        Agenda a = agendaAt(agenda);
        if (a == null) return BAD;
        int many = a.bench.size();
        a.bench.clear();
        return many;
    }

    int ofJudge(int agenda, int judge, int what) {
        Judge j = judgeAt(agendaAt(agenda), judge);
        if (j == null || what < 0 || what > 2) return BAD;
        return what == 0 ? j.weight : bits(j.answers, what == 1 ? 1 : 0);
    }

    int votes(int agenda, int question, int what) {
        Agenda a = agendaAt(agenda);
        if (a == null || question < 0 || question >= a.questions || what < 0 || what > 1) return BAD;
        int sum = 0;
        for (Judge j : a.bench) if (j.answers[question] == 1 - what) sum += j.weight;
        return sum;
    }

    int far(int agenda, int set) {
        Agenda a = agendaAt(agenda);
        return a == null || set < 0 || set >= 1 << a.questions ? BAD : a.far(a.bench, set);
    }

    int nearest(int agenda, int i) {
        Agenda a = agendaAt(agenda);
        if (a == null) return BAD;
        int least = Integer.MAX_VALUE;
        for (int set : a.lawful) least = Math.min(least, a.far(a.bench, set));
        List<Integer> near = new ArrayList<>();
        for (int set : a.lawful) if (a.far(a.bench, set) == least) near.add(set);
        if (i == -1) return near.size();
        return i < 0 || i >= near.size() ? BAD : near.get(i);
    }

    int way(int kind, int s, int c) {
        if (kind < 0 || kind > 7) return BAD;
        Way w = new Way();
        w.kind = kind;
        if (kind == 5 || kind == 6) {
            if (s < 0 || s > 9) return BAD;
            w.s = s;
        }
        if (kind == 6 || kind == 7) {
            if (c < 0 || c > 8) return BAD;
            w.c = c;
        }
        if (ways.size() == 20) return FULL;
        ways.add(w);
        return ways.size() - 1;
    }

    int ofWay(int way, int what) {
        Way w = wayAt(way);
        return w == null || what < 0 || what > 2 ? BAD : what == 0 ? w.kind : what == 1 ? w.s : w.c;
    }

    int outcome(int way, int agenda, int what) {
        Way w = wayAt(way);
        Agenda a = agendaAt(agenda);
        if (w == null || a == null || what < 0 || what > 4) return BAD;
        int[] out = w.outcome(a, a.bench);
        if (what < 3) return bits(out, what == 0 ? 1 : what == 1 ? 0 : -1);
        if (what == 4) return a.canStand(out) ? 0 : 1;
        int broken = 0;
        for (int t = 0; t < a.ties.size(); t++) {
            boolean kept = false;
            for (int set = 0; set < 1 << a.questions; set++) if (a.has(set, out) && a.ties.get(t).holds(set)) kept = true;
            if (!kept) broken |= 1 << t;
        }
        return broken;
    }

    int benches(int agenda, int n) {
        Agenda a = agendaAt(agenda);
        if (a == null || n < 1 || n > 5) return BAD;
        return a.lawful.size() > 12 ? BIG : a.allBenches(n).size();
    }

    static int toldBench(int[] numbers) {
        int sum = 0;
        for (int j = numbers.length - 1; j >= 0; j--) sum = sum * 16 + numbers[j];
        return sum;
    }

    int unlawful(int way, int agenda, int n, int what) {
        Way w = wayAt(way);
        Agenda a = agendaAt(agenda);
        if (w == null || a == null || n < 1 || n > 5 || what < 0 || what > 1) return BAD;
        if (a.lawful.size() > 12) return BIG;
        int many = 0;
        for (int[] numbers : a.allBenches(n)) {
            if (a.canStand(w.outcome(a, a.benchOf(numbers)))) continue;
            if (what == 1) return toldBench(numbers);
            many++;
        }
        return what == 1 ? NOT : many;
    }

    int unlike(int way, int other, int agenda, int n, int what) {
        Way w = wayAt(way), v = wayAt(other);
        Agenda a = agendaAt(agenda);
        if (w == null || v == null || a == null || n < 1 || n > 5 || what < 0 || what > 1) return BAD;
        if (a.lawful.size() > 12) return BIG;
        int many = 0;
        for (int[] numbers : a.allBenches(n)) {
            List<Judge> bench = a.benchOf(numbers);
            if (Arrays.equals(w.outcome(a, bench), v.outcome(a, bench))) continue;
            if (what == 1) return toldBench(numbers);
            many++;
        }
        return what == 1 ? NOT : many;
    }

    int sway(int way, int agenda, int n, int question) {
        Way w = wayAt(way);
        Agenda a = agendaAt(agenda);
        if (w == null || a == null || n < 1 || n > 5 || question < 0 || question >= a.questions) return BAD;
        if (a.lawful.size() > 12) return BIG;
        int many = 0;
        for (int[] numbers : a.allBenches(n)) if (w.outcome(a, a.benchOf(numbers))[question] == 1) many++;
        return many;
    }

    static int apart(int[] outcome, int[] own) {
        int many = 0;
        for (int q = 0; q < own.length; q++) if (outcome[q] != own[q]) many++;
        return many;
    }

    static int twistOf(Way w, Agenda a, List<Judge> judges, int judge) {
        Judge j = judges.get(judge);
        int[] own = j.answers;
        int least = apart(w.outcome(a, judges), own), best = NOT;
        for (int set : a.lawful) {
            j.answers = a.full(set);
            if (!Arrays.equals(j.answers, own)) {
                int now = apart(w.outcome(a, judges), own);
                if (now < least) {
                    least = now;
                    best = set;
                }
            }
        }
        j.answers = own;
        return best;
    }

    int twist(int way, int agenda, int judge) {
        Way w = wayAt(way);
        Agenda a = agendaAt(agenda);
        Judge j = judgeAt(a, judge);
        if (w == null || j == null) return BAD;
        for (int answer : j.answers) if (answer < 0) return BAD;
        return twistOf(w, a, a.bench, judge);
    }

    int twisted(int way, int agenda, int n) {
        Way w = wayAt(way);
        Agenda a = agendaAt(agenda);
        if (w == null || a == null || n < 1 || n > 5) return BAD;
        if (a.lawful.size() > 12) return BIG;
        int many = 0;
        for (int[] numbers : a.allBenches(n)) {
            List<Judge> judges = a.benchOf(numbers);
            boolean some = false;
            for (int j = 0; j < n && !some; j++) some = twistOf(w, a, judges, j) != NOT;
            if (some) many++;
        }
        return many;
    }

    static int breachOf(Way w, Agenda a, int n, int law) {
        List<int[]> rows = a.allRows(n);
        List<int[]> outs = new ArrayList<>();
        for (int[] row : rows) outs.add(w.outcome(a, a.benchOf(row)));
        if (law == 4) {
            for (int j = 0; j < n; j++) {
                boolean each = true;
                for (int r = 0; r < rows.size(); r++) each &= Arrays.equals(outs.get(r), a.full(a.lawful.get(rows.get(r)[j])));
                if (each) return j;
            }
            return NOT;
        }
        for (int r = 0; r < rows.size(); r++) if (showsAt(a, rows, outs, r, law)) return r;
        return NOT;
    }

    static boolean showsAt(Agenda a, List<int[]> rows, List<int[]> outs, int r, int law) {
        int[] row = rows.get(r), out = outs.get(r);
        if (law == 0) {
            int[] sorted = row.clone();
            Arrays.sort(sorted);
            for (int k = 0; k < rows.size(); k++) {
                if (Arrays.equals(rows.get(k), sorted)) return !Arrays.equals(outs.get(k), out);
            }
        }
        if (law == 1) {
            for (int k = 0; k < r; k++) {
                for (int q = 0; q < a.questions; q++) {
                    boolean alike = true;
                    for (int j = 0; j < row.length; j++) {
                        alike &= (a.lawful.get(row[j]) >> q & 1) == (a.lawful.get(rows.get(k)[j]) >> q & 1);
                    }
                    if (alike && out[q] != outs.get(k)[q]) return true;
                }
            }
            return false;
        }
        if (law == 2) {
            for (int number : row) if (number != row[0]) return false;
            return !Arrays.equals(out, a.full(a.lawful.get(row[0])));
        }
        return !a.canStand(out);
    }

    int breach(int way, int agenda, int n, int law) {
        Way w = wayAt(way);
        Agenda a = agendaAt(agenda);
        if (w == null || a == null || n < 1 || n > 3 || law < 0 || law > 4) return BAD;
        return a.lawful.size() > 6 ? BIG : breachOf(w, a, n, law);
    }

    int keeper(int agenda, int n, int laws) {
        Agenda a = agendaAt(agenda);
        if (a == null || n < 1 || n > 3 || laws < 1 || laws > 31) return BAD;
        if (a.lawful.size() > 6) return BIG;
        for (int way = 0; way < ways.size(); way++) {
            boolean keeps = true;
            for (int law = 0; law < 5 && keeps; law++) {
                if ((laws >> law & 1) == 1) keeps = breachOf(ways.get(way), a, n, law) == NOT;
            }
            if (keeps) return way;
        }
        return NOT;
    }

    int mend(int agenda, int n, int what) {
        Agenda a = agendaAt(agenda);
        if (a == null || n < 1 || n > 5 || what < 0 || what > 2) return BAD;
        Way heads = new Way();
        heads.kind = 1;
        for (int size = 0; size <= a.ties.size(); size++) {
            int rivals = 0, first = -1;
            for (int dropped = 0; dropped < 1 << a.ties.size(); dropped++) {
                if (Integer.bitCount(dropped) != size) continue;
                Agenda b = without(a, dropped);
                if (b.lawful.size() > 12) continue;
                boolean safe = true;
                for (int[] numbers : b.allBenches(n)) {
                    if (!b.canStand(heads.outcome(b, b.benchOf(numbers)))) {
                        safe = false;
                        break;
                    }
                }
                if (!safe) continue;
                if (first < 0) first = dropped;
                rivals++;
            }
            if (rivals > 0) return what == 0 ? size : what == 1 ? first : rivals;
        }
        return NOT;
    }

    int orders(int agenda, int question, int what) {
        Agenda a = agendaAt(agenda);
        if (a == null || question < 0 || question >= a.questions || what < 0 || what > 1) return BAD;
        if (a.questions > 6) return BIG;
        List<int[]> all = new ArrayList<>();
        addOrders(all, new ArrayList<>(), a.questions);
        int many = 0;
        for (int[] order : all) {
            if (a.inTurns(a.bench, order, -1)[question] != 1) continue;
            if (what == 1) {
                int number = 0;
                for (int q : order) number = number * 10 + q;
                return number;
            }
            many++;
        }
        return what == 1 ? NOT : many;
    }

    static void addOrders(List<int[]> all, List<Integer> begin, int questions) {
        if (begin.size() == questions) all.add(begin.stream().mapToInt(q -> q).toArray());
        for (int q = 0; q < questions; q++) {
            if (begin.contains(q)) continue;
            begin.add(q);
            addOrders(all, begin, questions);
            begin.remove(begin.size() - 1);
        }
    }

    // Acts, by looking the bodies up: {kind, act, body}.
    static final int[][] BODIES = {
        {0, 0, 1}, {0, 1, 10}, {0, 2, 11}, {0, 3, 2}, {1, 0, 20}, {2, 1, 30}, {3, 2, 40}, {4, 0, 50},
        {5, 1, 60}, {5, 3, 61}, {6, 2, 70}, {6, 1, 71}, {7, 3, 80},
    };

    static int above(int kind) {
        return kind == 2 || kind == 3 ? 1 : kind == 6 ? 5 : kind == 0 ? -1 : 0;
    }

    int run(int from, int act, int x, Way w, int n) {
        for (int kind = from; kind >= 0; kind = above(kind)) {
            for (int[] body : BODIES) {
                if (body[0] != kind || body[1] != act) continue;
                trace.add(body[2]);
                int up = above(kind), own = w.kind;
                switch (body[2]) {
                    case 1: return x + n;
                    case 10: return run(own, 0, x, w, n) * 2;
                    case 11: return x ^ n;
                    case 2: {
                        int weighs = run(own, 1, x, w, n);
                        return weighs - run(own, 2, 1, w, n);
                    }
                    case 20: return run(up, 0, x, w, n) - 1;
                    case 30: {
                        int weighs = run(up, 1, x, w, n);
                        return weighs + run(own, 0, 2, w, n);
                    }
                    case 40: return run(up, 2, x, w, n) * 3;
                    case 50: return run(up, 0, x, w, n) ^ 5;
                    case 60: return -run(up, 1, x, w, n);
                    case 61: return run(up, 3, x, w, n) + w.s;
                    case 70: return run(up, 2, x + 1, w, n);
                    case 71: return run(up, 1, x, w, n) - w.c;
                    default: {
                        int tells = run(up, 3, x, w, n);
                        return tells * 2 - run(up, 2, x, w, n);
                    }
                }
            }
        }
        throw new IllegalStateException();
    }

    int act(int way, int act, int x) {
        trace.clear();
        Way w = wayAt(way);
        return w == null || act < 0 || act > 3 ? 0 : run(w.kind, act, x, w, way);
    }

    int trace(int i) {
        return i < 0 || i >= trace.size() || i >= 24 ? BAD : trace.get(i);
    }

    int keep(int shelf, int way) {
        if (shelf < 0 || shelf > 5 || way != -1 && wayAt(way) == null) return BAD;
        shelves[shelf] = wayAt(way);
        return 1;
    }

    int row(int shelf, int sort, int n) {
        if (shelf < 0 || shelf > 5 || sort < 0 || sort > 4 || n > 60) return BAD;
        if (n < 0) return -14;
        shelves[shelf] = new Row(sort, n);
        return 1;
    }

    int place(int shelf, int i) {
        if (shelf < 0 || shelf > 5) return BAD;
        if (shelves[shelf] == null) return -11;
        if (!(shelves[shelf] instanceof Row)) return -12;
        return i < 0 || i >= ((Row) shelves[shelf]).elements.length ? -13 : 1;
    }

    int put(int shelf, int i, long v) {
        if (place(shelf, i) < 0) return place(shelf, i);
        Row row = (Row) shelves[shelf];
        long[] as = {(byte) v, (short) v, (int) v, v, v == 0 ? 0 : 1};
        row.elements[i] = as[row.sort];
        return 1;
    }

    long element(int shelf, int i) {
        return place(shelf, i) < 0 ? Long.MIN_VALUE : ((Row) shelves[shelf]).elements[i];
    }

    int shift(int shelf, int i, int other, int j, int n) {
        if (shelf < 0 || shelf > 5 || other < 0 || other > 5) return BAD;
        if (shelves[shelf] == null || shelves[other] == null) return -11;
        if (!(shelves[shelf] instanceof Row) || !(shelves[other] instanceof Row)) return -12;
        Row from = (Row) shelves[shelf], to = (Row) shelves[other];
        if (from.sort != to.sort) return -12;
        if (i < 0 || j < 0 || n < 0 || (long) i + n > from.elements.length || (long) j + n > to.elements.length) return -13;
        long[] were = from.elements.clone();
        for (int k = 0; k < n; k++) to.elements[j + k] = were[i + k];
        return n;
    }

    int taken(int shelf, int k) {
        if (shelf < 0 || shelf > 5 || k < 0 || k > 7) return BAD;
        if (shelves[shelf] == null) return -11;
        if (!(shelves[shelf] instanceof Way)) return -12;
        int own = ((Way) shelves[shelf]).kind;
        for (int kind = own; kind >= 0; kind = above(kind)) if (kind == k) return own;
        return -12;
    }

    int count(int what) {
        int judges = 0;
        for (Agenda a : agendas) judges += a.bench.size();
        switch (what) {
            case 0: return agendas.size();
            case 1: return ways.size();
            case 2: return tape.length();
            case 3: return judges;
            case 4: return trace.size();
            default: return BAD;
        }
    }
}
