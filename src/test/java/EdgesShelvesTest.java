/** The edges that the document names, promises 31 to 39: acts and shelves; and the 512 calls of an object. */
public final class EdgesShelvesTest {
    private static final int[] XS = {0, 1, -1, 9, 1 << 30, -1 << 30, Integer.MAX_VALUE, Integer.MAX_VALUE - 1, Integer.MIN_VALUE, Integer.MIN_VALUE + 1};

    public static void main(String[] args) {
        actsThatWrap();
        noSuchAct();
        trace();
        keep();
        row();
        rowsAreNew();
        sixShelves();
        put();
        lowestBits();
        element();
        shift();
        shiftRefused();
        shiftAsBefore();
        taken();
        count();
        lastCalls();
        Edges.end("edges of acts and shelves");
    }

    // ---- 31 and 32

    /** The acts by the document's formulas, for way number n of a kind with s and c. */
    private static int act(int kind, int act, int x, int n, int s, int c) {
        int counts = kind == 4 ? x + n ^ 5 : kind >= 1 && kind <= 3 ? x + n - 1 : x + n;
        int weighs = counts * 2;
        if (kind == 2) weighs += 2 + n - 1;
        if (kind == 5 || kind == 6) weighs = -weighs;
        if (kind == 6) weighs -= c;
        int binds = kind == 3 ? (x ^ n) * 3 : kind == 6 ? x + 1 ^ n : x ^ n;
        int bindsOne = kind == 3 ? (1 ^ n) * 3 : kind == 6 ? 2 ^ n : 1 ^ n;
        int tells = weighs - bindsOne;
        if (kind == 5 || kind == 6) tells += s;
        if (kind == 7) tells = tells * 2 - (x ^ n);
        return act == 0 ? counts : act == 1 ? weighs : act == 2 ? binds : tells;
    }

    private static void actsThatWrap() {
        Edges.says("6: ACTS of WAYS, with x (an int that wraps)");
        for (int way = 0; way < 20; way++) {
            DoorBench x = new DoorBench();
            for (int w = 0; w < 20; w++) x.way(w % 8, 9, 8);
            int kind = way % 8, s = kind == 5 || kind == 6 ? 9 : 0, c = kind == 6 || kind == 7 ? 8 : 0;
            for (int act = 0; act < 4; act++) {
                for (int v : XS) Edges.due("act " + act + " of way " + way + " with " + v, act(kind, act, v, way, s, c), x.act(way, act, v));
            }
        }
        DoorBench x = Edges.FILLED.make();
        Edges.due("counts of 0", Edges.LEAST, x.act(1, 0, Edges.LEAST));
        Edges.due("counts of 8", Edges.LEAST + 7, x.act(8, 0, Edges.MOST));
        Edges.due("weighs of 0", -2, x.act(0, 1, Edges.MOST));
        Edges.due("weighs of 0, half of all", 0, x.act(0, 1, Edges.LEAST));
        Edges.due("binds of 6", Edges.LEAST ^ 6, x.act(6, 2, Edges.MOST));
        Edges.due("tells of 0", -2 - 1, x.act(0, 3, Edges.MOST));
    }

    private static void dueNoAct(int way, int act) {
        DoorBench x = Edges.USUAL.make();
        Edges.due("bodies ahead of it", 8, x.count(4));
        Edges.due("act " + act + " of way " + way, 0, x.act(way, act, 5));
        Edges.due("bodies", 0, x.count(4));
        Edges.due("trace", Edges.BAD, x.trace(0));
        Edges.due("ways", 8, x.count(1));
        Edges.due("bytes", 11, x.count(2));
        Edges.due("the next act", 5, x.act(0, 0, 5));
        Edges.due("its trace", 1, x.trace(0));
    }

    private static void noSuchAct() {
        Edges.says("31: 0, and no TRACE then: no such WAY, ACT.");
        for (int v : new int[] {-1, 8, 20, Edges.LEAST, Edges.MOST}) dueNoAct(v, 0);
        for (int v : new int[] {-1, 4, Edges.LEAST, Edges.MOST}) dueNoAct(0, v);
        dueNoAct(-1, -1);
        Edges.inside("act of way, bodies", 0, 4, 7, 6, Edges.USUAL, (x, w) -> {
            x.act(w, 3, 0);
            return x.count(4);
        });
        Edges.inside("act, bodies", 0, 1, 3, 4, Edges.USUAL, (x, a) -> {
            x.act(0, a, 0);
            return x.count(4);
        });
        Edges.due("way 20 of twenty", 0, Edges.FILLED, x -> x.act(20, 0, 5));
        Edges.due("way 19 of twenty", 23, Edges.FILLED, x -> x.act(19, 0, 5));
    }

    private static void trace() {
        Edges.says("32: THE TRACE's i-th body. BAD.");
        Edges.inside("trace", 0, 61, 7, 11, Edges.USUAL, DoorBench::trace);
        Edges.outside("trace", 0, 7, Edges.USUAL, DoorBench::trace);
        for (int i : new int[] {0, 23, 24, 25}) Edges.bad("trace of no act", Edges.EMPTY, x -> x.trace(i));
        for (int i : new int[] {8, 22, 23, 24, 25}) Edges.bad("trace behind the last", Edges.USUAL, x -> x.trace(i));
        Edges.says("6: numbers of the bodies that ran in the latest act(), as they began");
        DoorBench x = Edges.USUAL.make();
        int[] bodies = {61, 2, 71, 60, 10, 1, 70, 11};
        for (int i = 0; i < 8; i++) Edges.due("body " + i, bodies[i], x.trace(i));
        x.act(1, 0, 0);
        Edges.due("the latest", 20, x.trace(0));
        Edges.due("the latest", 1, x.trace(1));
        Edges.due("of the one before nothing is left", Edges.BAD, x.trace(2));
        x.outcome(6, 0, 0);
        x.twisted(6, 0, 2);
        x.keeper(0, 2, 31);
        Edges.due("other calls don't act", 2, x.count(4));
    }

    // ---- 33 and 34

    private static void keep() {
        Edges.says("33: A SHELF holds nothing (way -1), or a WAY: 1. BAD.");
        Edges.inside("keep on shelf", 0, 1, 5, 1, Edges.USUAL, (x, s) -> x.keep(s, 7));
        Edges.inside("keep way", -1, 1, 7, 1, Edges.USUAL, (x, w) -> x.keep(0, w));
        Edges.inside("kept way", -1, Edges.NOTHING_THERE, 7, 7, Edges.USUAL, (x, w) -> {
            x.keep(0, w);
            return x.taken(0, 0);
        });
        Edges.outside("keep on shelf", 0, 5, Edges.USUAL, (x, s) -> x.keep(s, 7));
        Edges.outside("keep nothing on shelf", 0, 5, Edges.USUAL, (x, s) -> x.keep(s, -1));
        for (int shelf = 0; shelf < 6; shelf++) {
            int s = shelf;
            Edges.outside("keep way on " + s, -1, 7, Edges.USUAL, (x, w) -> x.keep(s, w));
        }
        Edges.outside("keep way", -1, 19, Edges.FILLED, (x, w) -> x.keep(0, w));
        Edges.due("the last of twenty", 3, Edges.FILLED, x -> {
            x.keep(5, 19);
            return x.taken(5, 0);
        });
        Edges.refused("keep nothing where nothing is", 1, Edges.USUAL, x -> x.keep(3, -1));
        Edges.refused("keep what is there", 1, Edges.USUAL, x -> x.keep(2, 6));
        Edges.bad("keep way 0 without ways", Edges.EMPTY, x -> x.keep(0, 0));
        Edges.refused("keep nothing without ways", 1, Edges.EMPTY, x -> x.keep(0, -1));
        Edges.due("a row gone for nothing", Edges.NOTHING_THERE, Edges.USUAL, x -> {
            x.keep(0, -1);
            return x.put(0, 0, 1);
        });
        Edges.due("a row gone for a way", Edges.OTHER_KIND, Edges.USUAL, x -> {
            x.keep(0, 0);
            return x.put(0, 0, 1);
        });
        Edges.due("a way on two shelves", 12, Edges.USUAL, x -> {
            x.keep(3, 6);
            return x.taken(2, 5) + x.taken(3, 6);
        });
    }

    private static void row() {
        Edges.says("6: a ROW of 0 .. 60 elements; 34: BAD (sort, n above 60); -14");
        for (int shelf = 0; shelf < 6; shelf++) {
            int s = shelf;
            Edges.inside("row of n", 0, 1, 60, 1, Edges.USUAL, (x, n) -> x.row(s, 3, n));
            for (int n : new int[] {61, 62, 255, 256, Edges.MOST}) Edges.bad("row of " + n, Edges.USUAL, x -> x.row(s, 3, n));
            for (int n : new int[] {-1, -60, Edges.LEAST}) Edges.refused("row of " + n, Edges.NO_SIZE, Edges.USUAL, x -> x.row(s, 3, n));
        }
        Edges.inside("row of sort", 0, 1, 4, 1, Edges.USUAL, (x, sort) -> x.row(3, sort, 1));
        Edges.outside("row of sort", 0, 4, Edges.USUAL, (x, sort) -> x.row(3, sort, 1));
        Edges.inside("row on shelf", 0, 1, 5, 1, Edges.USUAL, (x, s) -> x.row(s, 0, 1));
        Edges.outside("row on shelf", 0, 5, Edges.USUAL, (x, s) -> x.row(s, 0, 1));
        Edges.says("34: BAD; -14: of several the one named first");
        for (int n : new int[] {-1, Edges.LEAST}) {
            Edges.outside("row of sort, of " + n, 0, 4, Edges.USUAL, (x, sort) -> x.row(0, sort, n));
            Edges.outside("row on shelf, of " + n, 0, 5, Edges.USUAL, (x, s) -> x.row(s, 0, n));
        }
        Edges.says("6: of 0 .. 60 elements");
        DoorBench x = new DoorBench();
        x.row(0, 3, 60);
        Edges.due("the last of sixty", 1, x.put(0, 59, 7));
        Edges.due("behind the last of sixty", Edges.NO_PLACE, x.put(0, 60, 7));
        x.row(0, 3, 1);
        Edges.due("the only one", 1, x.put(0, 0, 7));
        Edges.due("behind the only one", Edges.NO_PLACE, x.put(0, 1, 7));
        x.row(0, 3, 0);
        Edges.due("the first of none", Edges.NO_PLACE, x.put(0, 0, 7));
        Edges.due("a row of none is a row", Edges.OTHER_KIND, x.taken(0, 0));
    }

    private static void rowsAreNew() {
        Edges.says("6: 0 at first (false)");
        for (int sort = 0; sort < 5; sort++) {
            DoorBench x = new DoorBench();
            x.row(5, sort, 60);
            for (int i = 0; i < 60; i++) x.put(5, i, -1);
            x.row(5, sort, 3);
            x.row(5, sort, 60);
            for (int i = 0; i < 60; i++) Edges.due("element " + i, 0, x.element(5, i));
            for (int i = 0; i < 60; i++) x.put(5, i, -1);
            x.keep(5, -1);
            x.row(5, (sort + 1) % 5, 60);
            for (int i = 0; i < 60; i++) Edges.due("element " + i + " behind nothing", 0, x.element(5, i));
        }
    }

    private static void sixShelves() {
        Edges.says("6: SHELVES 0 .. 5 each hold nothing (at first), a WAY, or a ROW");
        DoorBench x = new DoorBench();
        for (int shelf = 0; shelf < 6; shelf++) {
            Edges.due("at first", Edges.NOTHING_THERE, x.taken(shelf, 0));
            Edges.due("put at first", Edges.NOTHING_THERE, x.put(shelf, 0, 1));
            Edges.due("element at first", Long.MIN_VALUE, x.element(shelf, 0));
        }
        for (int shelf = 0; shelf < 6; shelf++) x.row(shelf, 3, 60);
        for (int shelf = 0; shelf < 6; shelf++) {
            x.put(shelf, 0, 100 + shelf);
            x.put(shelf, 59, 200 + shelf);
        }
        for (int shelf = 0; shelf < 6; shelf++) {
            Edges.due("first of " + shelf, 100 + shelf, x.element(shelf, 0));
            Edges.due("second of " + shelf, 0, x.element(shelf, 1));
            Edges.due("last but one of " + shelf, 0, x.element(shelf, 58));
            Edges.due("last of " + shelf, 200 + shelf, x.element(shelf, 59));
        }
        x.row(2, 0, 60);
        x.keep(3, -1);
        Edges.due("beside a new row", 201, x.element(1, 59));
        Edges.due("beside nothing", 104, x.element(4, 0));
    }

    // ---- 35 and 36

    private static void put() {
        Edges.says("35: Element i of a ROW becomes v: 1. BAD, -11, -12, -13.");
        Edges.outside("put on shelf", 0, 5, Edges.USUAL, (x, s) -> x.put(s, 0, 1));
        Edges.outside("put on shelf, no such place", 0, 5, Edges.USUAL, (x, s) -> x.put(s, -1, 1));
        Edges.inside("put at", 0, 1, 4, 1, Edges.USUAL, (x, i) -> x.put(0, i, 1));
        for (int i : new int[] {-1, 0, 60, Edges.LEAST, Edges.MOST}) {
            Edges.refused("put on nothing", Edges.NOTHING_THERE, Edges.USUAL, x -> x.put(3, i, 1));
            Edges.refused("put on a way", Edges.OTHER_KIND, Edges.USUAL, x -> x.put(2, i, 1));
            Edges.refused("put on no bytes", Edges.NO_PLACE, Edges.USUAL, x -> x.put(4, i, 1));
        }
        for (int i : new int[] {-1, 5, 59, 60, Edges.LEAST, Edges.MOST}) {
            Edges.refused("put of five at " + i, Edges.NO_PLACE, Edges.USUAL, x -> x.put(0, i, 1));
        }
        for (int shelf = 0; shelf < 6; shelf++) {
            int s = shelf;
            for (int i : new int[] {-1, 60, Edges.LEAST, Edges.MOST}) {
                Edges.refused("put of sixty at " + i, Edges.NO_PLACE, Edges.FILLED, x -> x.put(s, i, 1));
            }
        }
    }

    private static void lowestBits() {
        Edges.says("6: what is put in keeps its lowest bits (a boolean: whether it is not 0; 1 or 0)");
        long[] values = {
            0, 1, -1, 2, 127, 128, -128, -129, 255, 256, 32767, 32768, -32768, -32769, 65535, 65536,
            Integer.MAX_VALUE, Integer.MAX_VALUE + 1L, Integer.MIN_VALUE, Integer.MIN_VALUE - 1L, 0xffffffffL, 1L << 32,
            Long.MAX_VALUE, Long.MIN_VALUE, Long.MIN_VALUE + 1, 1L << 62,
        };
        DoorBench x = new DoorBench();
        for (int sort = 0; sort < 5; sort++) x.row(sort, sort, 60);
        for (int i = 0; i < values.length; i++) {
            long v = values[i];
            for (int sort = 0; sort < 5; sort++) Edges.due("put", 1, x.put(sort, i, v));
            Edges.due("byte of " + v, (byte) v, x.element(0, i));
            Edges.due("short of " + v, (short) v, x.element(1, i));
            Edges.due("int of " + v, (int) v, x.element(2, i));
            Edges.due("long of " + v, v, x.element(3, i));
            Edges.due("boolean of " + v, v != 0 ? 1 : 0, x.element(4, i));
        }
        Edges.due("byte 128", -128, byteOf(128));
        Edges.due("byte -129", 127, byteOf(-129));
        Edges.due("byte 256", 0, byteOf(256));
    }

    private static long byteOf(long v) {
        DoorBench x = new DoorBench();
        x.row(0, 0, 1);
        x.put(0, 0, v);
        return x.element(0, 0);
    }

    private static void element() {
        Edges.says("36: Element i of a ROW; Long.MIN_VALUE: BAD, -11 to -13.");
        Edges.inside("element", 0, 10, 4, 14, Edges.USUAL, (x, i) -> x.element(0, i));
        for (int v : new int[] {-1, 5, 59, 60, Edges.LEAST, Edges.MOST}) {
            Edges.refused("element " + v, Long.MIN_VALUE, Edges.USUAL, x -> x.element(0, v));
            Edges.refused("element " + v + " of no bytes", Long.MIN_VALUE, Edges.USUAL, x -> x.element(4, v));
            Edges.refused("element " + v + " of a way", Long.MIN_VALUE, Edges.USUAL, x -> x.element(2, v));
            Edges.refused("element " + v + " of nothing", Long.MIN_VALUE, Edges.USUAL, x -> x.element(3, v));
        }
        for (int s : new int[] {-1, 6, Edges.LEAST, Edges.MOST}) {
            Edges.refused("element on shelf " + s, Long.MIN_VALUE, Edges.USUAL, x -> x.element(s, 0));
        }
        Edges.refused("element of a way", Long.MIN_VALUE, Edges.USUAL, x -> x.element(2, 0));
        Edges.due("the last of sixty", 1, Edges.FILLED, x -> x.element(5, 59));
        Edges.refused("behind the last of sixty", Long.MIN_VALUE, Edges.FILLED, x -> x.element(5, 60));
    }

    // ---- 37

    private static void shift() {
        Edges.says("37: n elements of a ROW from i on come to another one (or the same) from j on: n");
        DoorBench x = new DoorBench();
        for (int shelf = 0; shelf < 6; shelf += 5) x.row(shelf, 2, 60);
        for (int i = 0; i < 60; i++) x.put(0, i, i + 1);
        Edges.due("all sixty", 60, x.shift(0, 0, 5, 0, 60));
        for (int i = 0; i < 60; i++) Edges.due("element " + i, i + 1, x.element(5, i));
        Edges.due("none", 0, x.shift(0, 0, 5, 0, 0));
        Edges.due("none at the ends", 0, x.shift(0, 60, 5, 60, 0));
        Edges.due("the first to the last", 1, x.shift(0, 0, 5, 59, 1));
        Edges.due("the last to the first", 1, x.shift(0, 59, 5, 0, 1));
        Edges.due("the last", 1, x.element(5, 59));
        Edges.due("the first", 60, x.element(5, 0));
        Edges.due("beside the first", 2, x.element(5, 1));
        Edges.due("beside the last", 59, x.element(5, 58));
        Edges.due("where they came from", 1, x.element(0, 0));
        x.row(1, 2, 0);
        Edges.due("none of none", 0, x.shift(1, 0, 1, 0, 0));
        Edges.due("none of none to the end", 0, x.shift(1, 0, 0, 60, 0));
        Edges.due("one to none", Edges.NO_PLACE, x.shift(0, 0, 1, 0, 1));
        Edges.due("one of none", Edges.NO_PLACE, x.shift(1, 0, 0, 0, 1));
    }

    private static void shiftRefused() {
        Edges.says("37: BAD, -11 (either), -12 (no ROWS, or of unlike sorts), -13.");
        Edges.outside("shift of shelf", 0, 5, Edges.USUAL, (x, s) -> x.shift(s, 0, 0, 0, 1));
        Edges.outside("shift to shelf", 0, 5, Edges.USUAL, (x, s) -> x.shift(0, 0, s, 0, 1));
        Edges.outside("shift of shelf to nothing", 0, 5, Edges.USUAL, (x, s) -> x.shift(s, 0, 3, 0, 1));
        Edges.outside("shift of nothing to shelf", 0, 5, Edges.USUAL, (x, s) -> x.shift(3, 0, s, 0, 1));
        for (int n : new int[] {0, 1, -1, 99}) {
            for (int shelf = 0; shelf < 6; shelf++) {
                int s = shelf;
                Edges.refused("shift of nothing", Edges.NOTHING_THERE, Edges.USUAL, x -> x.shift(3, 0, s, 0, n));
                Edges.refused("shift to nothing", Edges.NOTHING_THERE, Edges.USUAL, x -> x.shift(s, 0, 3, 0, n));
                if (s == 3) continue;
                Edges.refused("shift of a way", Edges.OTHER_KIND, Edges.USUAL, x -> x.shift(2, 0, s, 0, n));
                Edges.refused("shift to a way", Edges.OTHER_KIND, Edges.USUAL, x -> x.shift(s, 0, 2, 0, n));
                if (s == 0 || s == 2) continue;
                Edges.refused("shift of longs to others", Edges.OTHER_KIND, Edges.USUAL, x -> x.shift(0, 0, s, 0, n));
                Edges.refused("shift of others to longs", Edges.OTHER_KIND, Edges.USUAL, x -> x.shift(s, 0, 0, 0, n));
            }
        }
        // Five longs, from 0 to 1 on: four fit.
        Edges.due("four", 4, Edges.USUAL, x -> x.shift(0, 0, 0, 1, 4));
        int[][] noPlace = {
            {0, 1, 5}, {1, 0, 5}, {0, 0, 6}, {5, 0, 1}, {0, 5, 1}, {6, 0, 0}, {0, 6, 0}, {-1, 0, 1}, {0, -1, 1}, {-1, 0, 0}, {0, -1, 0},
            {0, 0, -1}, {5, 5, -1}, {0, 0, Edges.LEAST}, {0, 0, Edges.MOST}, {1, 1, Edges.MOST}, {Edges.MOST, 0, 1}, {0, Edges.MOST, 1},
            {Edges.MOST, 0, Edges.MOST}, {0, Edges.MOST, Edges.MOST}, {Edges.LEAST, 0, 1}, {0, Edges.LEAST, 1}, {Edges.LEAST, 0, Edges.MOST},
            {Edges.LEAST, Edges.LEAST, Edges.LEAST}, {Edges.MOST, Edges.MOST, 0}, {Edges.LEAST, 0, Edges.LEAST}, {Edges.MOST, 0, -5}, {0, Edges.MOST, 5},
        };
        for (int[] p : noPlace) {
            Edges.refused("shift from " + p[0] + " to " + p[1] + " of " + p[2], Edges.NO_PLACE, Edges.USUAL, x -> x.shift(0, p[0], 0, p[1], p[2]));
        }
        // A shorter row: either's places are looked at.
        Edges.due("shift to a shorter row", Edges.NO_PLACE, Edges.USUAL, x -> {
            x.row(3, 3, 2);
            return x.shift(0, 0, 3, 0, 3);
        });
        Edges.due("shift from a shorter row", Edges.NO_PLACE, Edges.USUAL, x -> {
            x.row(3, 3, 2);
            return x.shift(3, 0, 0, 0, 3);
        });
        Edges.due("shift of both", 2, Edges.USUAL, x -> {
            x.row(3, 3, 2);
            return x.shift(3, 0, 0, 3, 2);
        });
        // Behind the places of a row are those of the next shelf: they are not its own.
        Edges.refused("shift over the end of sixty", Edges.NO_PLACE, Edges.FILLED, x -> x.shift(0, 59, 5, 0, 2));
        Edges.refused("shift to over the end of sixty", Edges.NO_PLACE, Edges.FILLED, x -> x.shift(5, 0, 0, 59, 2));
        Edges.refused("shift to itself", 5, Edges.USUAL, x -> x.shift(0, 0, 0, 0, 5));
    }

    private static void shiftAsBefore() {
        Edges.says("37: as they all were before");
        for (int from = 0; from < 6; from++) {
            for (int to = 0; to < 6; to++) {
                for (int n = 0; n <= 6 - Math.max(from, to); n++) dueShift(from, to, n);
            }
        }
    }

    private static void dueShift(int from, int to, int n) {
        DoorBench x = new DoorBench();
        long[] want = new long[6];
        x.row(1, 1, 6);
        for (int i = 0; i < 6; i++) {
            want[i] = 10 + i;
            x.put(1, i, 10 + i);
        }
        long[] were = want.clone();
        for (int k = 0; k < n; k++) want[to + k] = were[from + k];
        Edges.due("shift in one row", n, x.shift(1, from, 1, to, n));
        for (int i = 0; i < 6; i++) Edges.due("element " + i + " of " + from + " " + to + " " + n, want[i], x.element(1, i));
    }

    // ---- 38 and 39

    private static void taken() {
        Edges.says("38: taken for a WAY of KIND k (0 .. 7), or under it: its KIND. BAD, -11, -12.");
        Edges.outside("taken, shelf", 0, 5, Edges.USUAL, (x, s) -> x.taken(s, 0));
        for (int shelf = 0; shelf < 6; shelf++) {
            int s = shelf;
            Edges.outside("taken of " + s + ", k", 0, 7, Edges.USUAL, (x, k) -> x.taken(s, k));
        }
        for (int kind = 0; kind < 8; kind++) {
            int k = kind;
            Edges.refused("nothing as " + k, Edges.NOTHING_THERE, Edges.USUAL, x -> x.taken(3, k));
            Edges.refused("longs as " + k, Edges.OTHER_KIND, Edges.USUAL, x -> x.taken(0, k));
            Edges.refused("no bytes as " + k, Edges.OTHER_KIND, Edges.USUAL, x -> x.taken(4, k));
            boolean is = k == 0 || k == 5 || k == 6;
            Edges.refused("a chair as " + k, is ? 6 : Edges.OTHER_KIND, Edges.USUAL, x -> x.taken(2, k));
        }
        // A kind above isn't under its own parts: heads is no premises, turns is no chair, a way is none of all.
        int[] above = {-1, 0, 1, 1, 0, 0, 5, 0};
        DoorBench x = new DoorBench();
        Edges.allKinds(x, 0, 0);
        for (int kind = 0; kind < 8; kind++) {
            x.keep(kind % 6, kind);
            for (int k = 0; k < 8; k++) {
                boolean under = false;
                for (int a = kind; a >= 0; a = above[a]) under |= a == k;
                Edges.due("kind " + kind + " as " + k, under ? kind : Edges.OTHER_KIND, x.taken(kind % 6, k));
            }
        }
    }

    private static void count() {
        Edges.says("39: 0 AGENDAS, 1 WAYS, 2 bytes, 3 JUDGES of all, 4 bodies. BAD.");
        Edges.outside("count", 0, 4, Edges.USUAL, DoorBench::count);
        Edges.outside("count", 0, 4, Edges.EMPTY, DoorBench::count);
        int[] usual = {6, 8, 11, 5, 8}, filled = {8, 20, 160, 9, 8};
        for (int what = 0; what < 5; what++) {
            int w = what;
            Edges.due("count " + w, usual[w], Edges.USUAL, x -> x.count(w));
            Edges.due("count " + w + ", full", filled[w], Edges.FILLED, x -> x.count(w));
            Edges.due("count " + w + ", empty", 0, Edges.EMPTY, x -> x.count(w));
        }
    }

    private static void lastCalls() {
        Edges.says("An object is used for at most 512 calls after it has been made");
        DoorBench x = new DoorBench();
        int calls = 0;
        // An agenda that can't be, as dear as one is, again and again.
        String ties = ";t !9{a,b,c,d,e,f,g,h,i,j};t 9{a,b,c,d,e,f,g,h,i,j}";
        String text = "q abcdefghij;p abcde;e fghij" + ties + ";t a|b=c|d;t e&f=g;t h>i;t j=j;t a&b|c&d;t e=f=g";
        while (calls < 450) {
            Edges.write(x, text);
            calls += (text.length() + 3) / 4;
            Edges.due("the tape", text.length(), x.count(2));
            Edges.due("agenda", -1003, x.agenda());
            calls += 2;
        }
        Edges.due("agenda", 0, Edges.tell(x, "q a"));
        calls += 2;
        x.judge(0, 1, 1, 0);
        x.way(6, 0, 0);
        calls += 2;
        for (; calls < 510; calls++) Edges.due("act", -10, x.act(0, 1, 5));
        Edges.due("the 511th", -12, x.act(0, 3, 5));
        Edges.due("the 512th", 8, x.count(4));
    }
}
