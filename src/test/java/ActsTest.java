/** Promises 30 to 39: bodies, acts, shelves. */
public final class ActsTest {
    private static final long LEAST = Long.MIN_VALUE;
    private static final Check CHECK = new Check();

    private static void due(String what, long got, long want) { CHECK.due(what, got, want); }

    public static void main(String[] args) {
        bodies();
        acts();
        wraps();
        keeping();
        sorts();
        refusals();
        shifts();
        under();
        CHECK.close();
    }

    private static void bodies() {
        TurnsOneWay x = new TurnsOneWay();
        due("30: kind 8", x.body(8), -1);
        due("30: kind -1", x.body(-1), -1);
        for (int i = 0; i < 50; i++) due("30: number", x.body(i % 8), i);
        due("30: FULL", x.body(0), -3);
        due("30: BAD ahead of FULL", x.body(8), -1);
        due("39: bodies", x.count(5), 50);
    }

    /** An act of the body of this kind, its number that of the kind: answer, and the bodies that ran. */
    private static void act(TurnsOneWay x, int kind, int act, int v, int answer, int... ran) {
        String what = "31: act " + act + " of " + kind;
        due(what, x.act(kind, act, v), answer);
        due(what + ", how many ran", x.count(6), ran.length);
        for (int i = 0; i < ran.length; i++) due("32: " + what + ", " + i, x.trace(i), ran[i]);
        due("32: " + what + ", behind", x.trace(ran.length), -1);
        due("32: " + what + ", -1", x.trace(-1), -1);
    }

    private static void acts() {
        TurnsOneWay x = new TurnsOneWay();
        for (int kind = 0; kind < 8; kind++) x.body(kind);
        act(x, 0, 0, 5, 5, 1);
        act(x, 0, 1, 5, 10, 10, 1);
        act(x, 0, 2, 5, 5, 11);
        act(x, 0, 3, 5, 9, 2, 10, 1, 11);
        act(x, 1, 0, 5, 9, 20, 1);
        act(x, 1, 1, 5, 18, 10, 20, 1);
        act(x, 1, 3, 5, 18, 2, 10, 20, 1, 11);
        act(x, 2, 0, 5, 7, 1);
        act(x, 2, 1, 5, -14, 30, 10, 1);
        act(x, 2, 3, 5, -17, 2, 30, 10, 1, 11);
        act(x, 3, 1, 5, -18, 41, 30, 10, 1);
        act(x, 3, 2, 5, 18, 40, 11);
        act(x, 3, 3, 5, -24, 2, 41, 30, 10, 1, 40, 11);
        act(x, 4, 3, 5, (-18 - 5) ^ 5, 50, 2, 30, 10, 1, 11);
        act(x, 5, 0, 5, 26, 60, 20, 1);
        act(x, 5, 2, 5, 0 + 18, 61, 11, 60, 20, 1);
        act(x, 5, 3, 5, 52 - (4 + 18), 2, 10, 60, 20, 1, 61, 11, 60, 20, 1);
        act(x, 6, 2, 5, 2, 70, 11);
        act(x, 6, 3, 5, 22 - 6, 2, 10, 1, 70, 11);
        act(x, 7, 1, 5, 24 + 4, 80, 10, 1, 70, 11);
        act(x, 7, 3, 5, 28 - 5 - 8, 81, 2, 80, 10, 1, 70, 11, 70, 11, 1);
        due("31: no such body", x.act(8, 0, 5), 0);
        due("32: no trace then", x.trace(0), -1);
        due("39: none ran", x.count(6), 0);
        act(x, 7, 0, 5, 12, 1);
        due("31: no such act", x.act(0, 4, 5), 0);
        due("39: none ran", x.count(6), 0);
        act(x, 7, 0, -7, 0, 1);
        due("31: body -1", x.act(-1, 0, 5), 0);
        due("31: act -1", x.act(0, -1, 5), 0);
        due("39: none ran", x.count(6), 0);
    }

    private static void wraps() {
        TurnsOneWay x = new TurnsOneWay();
        for (int i = 0; i < 6; i++) x.body(i);
        due("31: rolls wraps", x.act(2, 0, Integer.MAX_VALUE), Integer.MIN_VALUE + 1);
        due("31: trades wraps", x.act(0, 1, 1 << 30), Integer.MIN_VALUE);
        due("31: x + 1 wraps", x.act(3, 1, Integer.MAX_VALUE), -2 * (Integer.MIN_VALUE + 3));
        due("31: x a bit apart", x.act(5, 2, -1), (-1 ^ 5) + 18);
    }

    private static void keeping() {
        TurnsOneWay x = new TurnsOneWay();
        x.body(7);
        x.body(3);
        due("33: a body", x.keep(5, 1), 1);
        due("38: its kind", x.taken(5, 0), 3);
        due("33: another", x.keep(5, 0), 1);
        due("38: its kind", x.taken(5, 0), 7);
        due("33: nothing", x.keep(5, -1), 1);
        due("38: nothing", x.taken(5, 0), -11);
        due("33: body 2", x.keep(0, 2), -1);
        due("33: body -2", x.keep(0, -2), -1);
        due("33: shelf 6", x.keep(6, 0), -1);
        due("33: shelf -1", x.keep(-1, 0), -1);
        due("34: a row", x.row(5, 2, 3), 1);
        x.put(5, 0, 8);
        due("33: BAD leaves it", x.keep(5, 2), -1);
        due("36: so", x.element(5, 0), 8);
        due("33: a body in its place", x.keep(5, 0), 1);
        due("36: no row", x.element(5, 0), LEAST);
        due("34: a row in its place", x.row(5, 2, 3), 1);
        due("34: 0 at first", x.element(5, 0), 0);
        due("38: a row", x.taken(5, 0), -12);
    }

    private static void sorts() {
        TurnsOneWay x = new TurnsOneWay();
        long v = 0x123456789ABCDEF0L;
        long[] lowest = {(byte) 0xF0, (short) 0xDEF0, 0x9ABCDEF0, v, 1};
        for (int sort = 0; sort < 5; sort++) {
            due("34: sort " + sort, x.row(sort, sort, 60), 1);
            due("36: 0 at first", x.element(sort, 59), 0);
            due("35: put", x.put(sort, 59, v), 1);
            due("36: the lowest bits of sort " + sort, x.element(sort, 59), lowest[sort]);
            due("36: beside", x.element(sort, 58), 0);
            due("35: 0", x.put(sort, 59, 0), 1);
            due("36: 0", x.element(sort, 59), 0);
            due("35: beyond 32 bits", x.put(sort, 0, 1L << 40), 1);
            due("36: of sort " + sort, x.element(sort, 0), sort == 3 ? 1L << 40 : sort == 4 ? 1 : 0);
            due("35: -1", x.put(sort, 0, -1), 1);
            due("36: -1", x.element(sort, 0), sort == 4 ? 1 : -1);
        }
        due("34: sort 5", x.row(0, 5, 1), -1);
        due("34: sort -1", x.row(0, -1, 1), -1);
        due("34: BAD ahead of -14", x.row(0, 5, -1), -1);
        due("34: shelf 6", x.row(6, 0, 1), -1);
        due("34: shelf -1", x.row(-1, 0, -1), -1);
        due("34: n 61", x.row(0, 0, 61), -1);
        due("34: n -1", x.row(0, 0, -1), -14);
        due("34: n least", x.row(0, 0, Integer.MIN_VALUE), -14);
        due("34: these leave it", x.element(0, 0), -1);
        due("34: n 0", x.row(0, 0, 0), 1);
        due("35: none in it", x.put(0, 0, 1), -13);
    }

    private static void refusals() {
        TurnsOneWay x = new TurnsOneWay();
        x.body(0);
        x.keep(1, 0);
        x.row(2, 3, 4);
        due("35: shelf 6", x.put(6, 0, 1), -1);
        due("35: shelf -1", x.put(-1, 0, 1), -1);
        due("35: nothing", x.put(0, 9, 1), -11);
        due("35: a body", x.put(1, 9, 1), -12);
        for (int i : new int[] {4, -1, Integer.MAX_VALUE, Integer.MIN_VALUE}) {
            due("35: place " + i, x.put(2, i, 1), -13);
            due("36: place " + i, x.element(2, i), LEAST);
        }
        due("36: shelf 6", x.element(6, 0), LEAST);
        due("36: shelf -1", x.element(-1, 0), LEAST);
        due("36: nothing", x.element(0, 0), LEAST);
        due("36: a body", x.element(1, 0), LEAST);
        x.put(2, 3, -13);
        due("36: an element like a refusal", x.element(2, 3), -13);
    }

    private static void row(TurnsOneWay x, int shelf, int sort, int... values) {
        x.row(shelf, sort, values.length);
        for (int i = 0; i < values.length; i++) x.put(shelf, i, values[i]);
    }

    private static void holds(String what, TurnsOneWay x, int shelf, int... values) {
        for (int i = 0; i < values.length; i++) due(what + ", " + i, x.element(shelf, i), values[i]);
    }

    private static void shifts() {
        TurnsOneWay x = new TurnsOneWay();
        x.body(0);
        row(x, 0, 0, 1, 2, 3, 4, 5);
        row(x, 1, 0, 6, 7, 8);
        row(x, 2, 1, 9, 9, 9);
        x.keep(3, 0);
        due("37: to another", x.shift(0, 1, 1, 0, 2), 2);
        holds("37: to another", x, 1, 2, 3, 8);
        holds("37: it stays", x, 0, 1, 2, 3, 4, 5);
        due("37: onward", x.shift(0, 0, 0, 1, 4), 4);
        holds("37: onward", x, 0, 1, 1, 2, 3, 4);
        due("37: back", x.shift(0, 1, 0, 0, 4), 4);
        holds("37: back", x, 0, 1, 2, 3, 4, 4);
        due("37: none at the ends", x.shift(0, 5, 1, 3, 0), 0);
        due("37: none behind the end", x.shift(0, 6, 1, 0, 0), -13);
        due("37: none behind the other's end", x.shift(0, 0, 1, 4, 0), -13);
        due("37: too many", x.shift(0, 3, 1, 0, 3), -13);
        due("37: too many there", x.shift(0, 0, 1, 1, 3), -13);
        due("37: from -1", x.shift(0, -1, 1, 0, 1), -13);
        due("37: to -1", x.shift(0, 0, 1, -1, 1), -13);
        due("37: n -1", x.shift(0, 0, 1, 0, -1), -13);
        due("37: far", x.shift(0, Integer.MAX_VALUE, 1, 0, Integer.MAX_VALUE), -13);
        due("37: far there", x.shift(0, 0, 1, Integer.MIN_VALUE, Integer.MIN_VALUE), -13);
        holds("37: these leave it", x, 1, 2, 3, 8);
        due("37: unlike sorts", x.shift(0, 0, 2, 0, 1), -12);
        due("37: unlike ahead of the place", x.shift(0, -1, 2, 0, 1), -12);
        due("37: a body", x.shift(3, 0, 0, 0, 1), -12);
        due("37: to a body", x.shift(0, 0, 3, 0, 1), -12);
        due("37: body to body", x.shift(3, 0, 3, 0, 0), -12);
        due("37: nothing", x.shift(4, 0, 0, 0, 1), -11);
        due("37: to nothing", x.shift(0, 0, 4, 0, 1), -11);
        due("37: a body to nothing", x.shift(3, 0, 4, 0, 1), -11);
        due("37: nothing to a body", x.shift(4, 0, 3, 0, 1), -11);
        due("37: shelf 6", x.shift(6, 0, 0, 0, 1), -1);
        due("37: to shelf -1", x.shift(4, 0, -1, 0, 1), -1);
    }

    private static void under() {
        TurnsOneWay x = new TurnsOneWay();
        // by KIND: those that it may be taken for
        String[] under = {"0", "01", "02", "023", "024", "015", "06", "067"};
        for (int kind = 0; kind < 8; kind++) {
            x.body(kind);
            x.keep(0, kind);
            for (int k = 0; k < 8; k++) {
                due("38: " + kind + " for " + k, x.taken(0, k), under[kind].indexOf('0' + k) >= 0 ? kind : -12);
            }
        }
        due("38: k 8", x.taken(0, 8), -1);
        due("38: k -1", x.taken(1, -1), -1);
        due("38: shelf 6", x.taken(6, 0), -1);
        due("38: shelf -1", x.taken(-1, 0), -1);
        due("38: nothing", x.taken(1, 0), -11);
        x.row(2, 0, 0);
        due("38: a row", x.taken(2, 0), -12);
    }
}
