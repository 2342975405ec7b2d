import java.util.ArrayList;
import java.util.List;

/** The sentences of Terms 5, and of promises 30 to 39, that name a boundary case. */
public final class EdgesOfActsTest {
    private static final long NO_ELEMENT = Long.MIN_VALUE;
    private static final int LEAST = Integer.MIN_VALUE, MOST = Integer.MAX_VALUE;
    private static final Check CHECK = new Check();

    private static void due(String what, long got, long want) { CHECK.due(what, got, want); }

    private static void sentence(String words) { CHECK.sentence(words); }

    /** An object with a BODY of each KIND, its number that of the KIND. */
    private static TurnsOneWay ofKinds() {
        TurnsOneWay x = new TurnsOneWay();
        for (int kind = 0; kind < 8; kind++) x.body(kind);
        return x;
    }

    private static void row(TurnsOneWay x, int shelf, int sort, long... values) {
        x.row(shelf, sort, values.length);
        for (int i = 0; i < values.length; i++) x.put(shelf, i, values[i]);
    }

    private static void holds(String what, TurnsOneWay x, int shelf, long... values) {
        for (int i = 0; i < values.length; i++) due(what + ", element " + i, x.element(shelf, i), values[i]);
        due(what + ", behind its end", x.element(shelf, values.length), NO_ELEMENT);
    }

    public static void main(String[] args) {
        fifty();
        wrapping();
        ownNumber();
        noAct();
        traces();
        shelvesEmpty();
        keeping();
        rowSizes();
        rowAnew();
        lowestBits();
        places();
        putRefusals();
        shiftPlaces();
        shiftAsBefore();
        shiftRefusals();
        taken();
        counts();
        CHECK.close();
    }

    private static void fifty() {
        sentence("T5: BODIES 0 .. 49; P30: FULL");
        TurnsOneWay x = new TurnsOneWay();
        for (int i = 0; i < 50; i++) due("body", x.body(i % 8), i);
        for (int kind = 0; kind < 8; kind++) due("the 51st", x.body(kind), -3);
        due("bodies", x.count(5), 50);
        due("there is none of number 50", x.keep(0, 50), -1);
        due("the last is as it was", x.keep(0, 49) + x.taken(0, 0), 2);
        sentence("P30: a KIND (0 .. 7); BAD ahead of FULL");
        TurnsOneWay none = new TurnsOneWay();
        for (int kind : new int[] {-1, 8, LEAST, MOST}) {
            due("KIND " + kind, none.body(kind), -1);
            due("KIND " + kind + " of 50", x.body(kind), -1);
        }
        due("none came", none.count(5), 0);
        due("KIND 0", none.body(0), 0);
        due("KIND 7", none.body(7), 1);
    }

    /** Each KIND's acts by Java's own classes, which find their bodies for themselves. */
    private static void compare(int kind, int number, TurnsOneWay x, int v) {
        for (int act = 0; act < 4; act++) {
            List<Integer> trace = new ArrayList<>();
            Beings.Going being = Beings.of(kind, number, trace);
            int want = act == 0 ? being.rolls(v) : act == 1 ? being.trades(v) : act == 2 ? being.ends(v) : being.tells(v);
            due("act " + act + " of KIND " + kind + " by " + v, x.act(number, act, v), want);
            due("how many ran", x.count(6), trace.size());
        }
    }

    private static void wrapping() {
        sentence("T5: ACTS with x (an int that wraps)");
        for (int kind = 0; kind < 8; kind++) {
            TurnsOneWay x = ofKinds();
            for (int v : new int[] {LEAST, LEAST + 1, LEAST + 7, 1 << 30, -(1 << 30), -1, 0, 1, MOST - 7, MOST - 1, MOST}) compare(kind, kind, x, v);
        }
        TurnsOneWay x = ofKinds();
        due("x + n", x.act(7, 0, MOST), LEAST + 6);
        due("rolls(x) * 2", x.act(0, 1, 1 << 30), LEAST);
        due("- of the least", x.act(2, 1, (1 << 30) - 2), LEAST);
        due("x + 1", x.act(3, 1, MOST), -2 * (LEAST + 3));
    }

    private static void ownNumber() {
        sentence("T5: n its number, 0 to 49");
        TurnsOneWay x = new TurnsOneWay();
        for (int i = 0; i < 50; i++) x.body(i % 8);
        for (int i : new int[] {0, 1, 8, 41, 42, 43, 44, 45, 46, 47, 48, 49}) compare(i % 8, i, x, 1000);
        due("x + 49, and 3 by KEPT", x.act(49, 0, 1), 53);
        due("x ^ 48", x.act(48, 2, 1), 49);
    }

    private static void noAct() {
        sentence("P31: 0, and no TRACE then: no such BODY, ACT");
        int[][] wrongs = {{8, 0}, {-1, 0}, {50, 0}, {LEAST, 0}, {MOST, 0}, {0, 4}, {0, -1}, {0, LEAST}, {0, MOST}, {8, 4}};
        TurnsOneWay x = ofKinds();
        for (int[] a : wrongs) {
            due("an act", x.act(7, 3, 5), 15);
            due("its TRACE", x.trace(0), 81);
            due("act(" + a[0] + ", " + a[1] + ")", x.act(a[0], a[1], 5), 0);
            due("no TRACE", x.trace(0), -1);
            due("none ran", x.count(6), 0);
        }
        for (int kind = 0; kind < 8; kind++) {
            for (int act : new int[] {-1, 4}) {
                due("act " + act + " of KIND " + kind, x.act(kind, act, 5), 0);
                due("none ran", x.count(6), 0);
            }
        }
        TurnsOneWay none = new TurnsOneWay();
        for (int act = 0; act < 4; act++) due("of a new object", none.act(0, act, 5), 0);
        sentence("P31: ACT (0 .. 3), the first and the last BODY");
        for (int act = 0; act < 4; act++) {
            due("act " + act + " of the first", x.act(0, act, 5) == 0 || x.trace(0) < 0 ? 1 : 0, 0);
            due("act " + act + " of the last", x.act(7, act, 5) == 0 || x.trace(0) < 0 ? 1 : 0, 0);
        }
        due("an act that gives 0 has its TRACE", x.act(7, 0, -7), 0);
        due("it", x.trace(0), 1);
    }

    private static void traces() {
        sentence("T5: THE TRACE: numbers of the bodies that ran in the latest act(), as they began; P32: BAD");
        TurnsOneWay x = ofKinds();
        due("none at first", x.trace(0), -1);
        int[] most = {2, 10, 60, 20, 1, 61, 11, 60, 20, 1};
        x.act(5, 3, 5);
        for (int i = 0; i < most.length; i++) due("trace " + i, x.trace(i), most[i]);
        for (int i : new int[] {-1, 10, 11, 23, 24, 25, LEAST, MOST}) due("trace " + i, x.trace(i), -1);
        due("how many", x.count(6), 10);
        x.act(0, 0, 5);
        due("the latest alone", x.trace(0), 1);
        due("none of the one ahead", x.trace(1), -1);
        due("how many", x.count(6), 1);
    }

    private static void shelvesEmpty() {
        sentence("T5: SHELVES 0 .. 5 each hold nothing (at first); -11 nothing is there where something is wanted");
        TurnsOneWay x = new TurnsOneWay();
        for (int shelf = 0; shelf <= 5; shelf++) {
            due("taken " + shelf, x.taken(shelf, 0), -11);
            due("put " + shelf, x.put(shelf, 0, 1), -11);
            due("element " + shelf, x.element(shelf, 0), NO_ELEMENT);
            due("shift " + shelf, x.shift(shelf, 0, shelf, 0, 0), -11);
        }
        for (int shelf : new int[] {-1, 6, LEAST, MOST}) {
            due("taken " + shelf, x.taken(shelf, 0), -1);
            due("put " + shelf, x.put(shelf, 0, 1), -1);
            due("element " + shelf, x.element(shelf, 0), NO_ELEMENT);
            due("shift from " + shelf, x.shift(shelf, 0, 0, 0, 0), -1);
            due("shift to " + shelf, x.shift(0, 0, shelf, 0, 0), -1);
            due("keep " + shelf, x.keep(shelf, -1), -1);
            due("row " + shelf, x.row(shelf, 0, 0), -1);
        }
    }

    private static void keeping() {
        sentence("P33: A SHELF holds nothing (body -1), or a BODY: 1. BAD");
        TurnsOneWay x = ofKinds();
        for (int body : new int[] {-2, 8, 49, 50, LEAST, MOST}) due("body " + body, x.keep(0, body), -1);
        due("nothing still", x.taken(0, 0), -11);
        due("nothing on nothing", x.keep(0, -1), 1);
        due("body 0", x.keep(0, 0), 1);
        due("its KIND", x.taken(0, 0), 0);
        due("body 7", x.keep(0, 7), 1);
        due("its KIND", x.taken(0, 0), 7);
        for (int body : new int[] {-2, 8}) due("body " + body, x.keep(0, body), -1);
        due("the BODY stays", x.taken(0, 7), 7);
        due("nothing", x.keep(0, -1), 1);
        due("nothing is there", x.taken(0, 0), -11);
        row(x, 0, 3, 5, 6);
        due("body 8", x.keep(0, 8), -1);
        holds("the ROW stays", x, 0, 5, 6);
        due("nothing", x.keep(0, -1), 1);
        due("no ROW is there", x.put(0, 0, 1), -11);
        TurnsOneWay none = new TurnsOneWay();
        due("there is no body 0", none.keep(0, 0), -1);
        due("but nothing", none.keep(0, -1), 1);
        due("the same BODY on two shelves", x.keep(1, 3) + x.keep(2, 3), 2);
        due("one", x.taken(1, 0), 3);
        due("and the other", x.taken(2, 0), 3);
    }

    private static void rowSizes() {
        sentence("T5: of 0 .. 60 elements; P34: n above 60: BAD; a size below 0: -14");
        for (int sort = 0; sort <= 4; sort++) {
            TurnsOneWay x = new TurnsOneWay();
            due("60", x.row(0, sort, 60), 1);
            due("the last", x.put(0, 59, 1), 1);
            due("it is", x.element(0, 59), 1);
            due("none behind", x.put(0, 60, 1), -13);
            for (int n : new int[] {61, MOST}) due("n " + n, x.row(0, sort, n), -1);
            for (int n : new int[] {-1, LEAST}) due("n " + n, x.row(0, sort, n), -14);
            due("the ROW stays", x.element(0, 59), 1);
            due("1", x.row(0, sort, 1), 1);
            due("the first", x.put(0, 0, 1), 1);
            due("none behind", x.put(0, 1, 1), -13);
            due("0", x.row(0, sort, 0), 1);
            due("none", x.put(0, 0, 1), -13);
            due("it is there", x.taken(0, 0), -12);
        }
        sentence("P34: BAD (sort), ahead of -14");
        TurnsOneWay x = new TurnsOneWay();
        for (int sort : new int[] {-1, 5, LEAST, MOST}) {
            for (int n : new int[] {0, 60, -1, LEAST}) due("sort " + sort + ", n " + n, x.row(0, sort, n), -1);
        }
        due("shelf 6, n -1", x.row(6, 0, -1), -1);
        due("nothing came", x.taken(0, 0), -11);
    }

    private static void rowAnew() {
        sentence("T5: of elements, 0 at first (false)");
        TurnsOneWay x = ofKinds();
        for (int sort = 0; sort <= 4; sort++) {
            row(x, 0, sort, 1, 1, 1);
            holds("put", x, 0, 1, 1, 1);
            x.row(0, sort, 3);
            holds("anew", x, 0, 0, 0, 0);
            x.put(0, 2, 1);
            x.row(0, sort, 2);
            x.row(0, sort, 3);
            holds("shorter and anew", x, 0, 0, 0, 0);
        }
        x.row(1, 2, 60);
        for (int i = 0; i < 60; i++) due("element " + i, x.element(1, i), 0);
        row(x, 1, 2, 7, 8);
        x.keep(1, 3);
        due("a BODY in its place", x.taken(1, 0), 3);
        x.row(1, 2, 2);
        holds("a ROW in the BODY's place", x, 1, 0, 0);
        due("no BODY is there", x.taken(1, 0), -12);
    }

    private static void lowestBits() {
        sentence("T5: what is put in keeps its lowest bits");
        long[] values = {0, 1, -1, 127, 128, 255, 256, -128, -129, 32767, 32768, 65535, 65536, -32768, -32769,
            MOST, MOST + 1L, LEAST, LEAST - 1L, 1L << 32, (1L << 32) - 1, 1L << 40, Long.MAX_VALUE, Long.MIN_VALUE + 1};
        TurnsOneWay x = new TurnsOneWay();
        for (int sort = 0; sort <= 3; sort++) x.row(sort, sort, 1);
        for (long v : values) {
            long[] lowest = {(byte) v, (short) v, (int) v, v};
            for (int sort = 0; sort <= 3; sort++) {
                due("put " + v, x.put(sort, 0, v), 1);
                due(v + " of sort " + sort, x.element(sort, 0), lowest[sort]);
            }
        }
        sentence("T5: (a boolean: whether it is not 0; 1 or 0)");
        x = new TurnsOneWay();
        x.row(4, 4, 1);
        for (long v : values) {
            x.put(4, 0, v);
            due("" + v, x.element(4, 0), v == 0 ? 0 : 1);
        }
        x.put(4, 0, Long.MIN_VALUE);
        due("the least", x.element(4, 0), 1);
        sentence("P36: an element may be as a refusal is");
        row(x, 3, 3, Long.MIN_VALUE, -1, -11, -12, -13);
        holds("longs", x, 3, Long.MIN_VALUE, -1, -11, -12, -13);
    }

    private static void places() {
        sentence("T5: -13 a place that is not there: P35, P36");
        TurnsOneWay x = new TurnsOneWay();
        row(x, 0, 2, 5, 6, 7);
        due("the first", x.put(0, 0, 8), 1);
        due("the last", x.put(0, 2, 9), 1);
        for (int i : new int[] {-1, 3, 59, 60, LEAST, MOST}) {
            due("put " + i, x.put(0, i, 1), -13);
            due("element " + i, x.element(0, i), NO_ELEMENT);
        }
        holds("the others stay", x, 0, 8, 6, 9);
    }

    private static void putRefusals() {
        sentence("P35, P36: BAD, -11, -12, -13, of several the one named first");
        TurnsOneWay x = ofKinds();
        x.keep(1, 0);
        x.row(2, 0, 2);
        for (int i : new int[] {0, -1, 9}) {
            due("BAD", x.put(6, i, 1), -1);
            due("-11", x.put(0, i, 1), -11);
            due("-12", x.put(1, i, 1), -12);
            due("-13", x.put(2, i == 0 ? 2 : i, 1), -13);
            for (int shelf : new int[] {6, 0, 1}) due("element", x.element(shelf, i), NO_ELEMENT);
        }
        due("the BODY stays", x.taken(1, 0), 0);
        due("nothing came on 0", x.taken(0, 0), -11);
    }

    private static void shiftPlaces() {
        sentence("P37: -13 (n below 0, too)");
        TurnsOneWay x = new TurnsOneWay();
        row(x, 0, 2, 1, 2, 3, 4, 5);
        row(x, 1, 2, 6, 7, 8);
        int[][] wrongs = {{-1, 0, 1}, {5, 0, 1}, {0, -1, 1}, {0, 3, 1}, {3, 0, 3}, {0, 1, 3}, {0, 0, 4}, {0, 0, 6}, {0, 0, -1}, {1, 1, -1},
            {6, 0, 0}, {0, 4, 0}, {-1, 0, 0}, {0, -1, 0}, {0, 0, LEAST}, {0, 0, MOST}, {1, 1, MOST}, {MOST, 0, 1}, {0, MOST, 1},
            {MOST, 0, MOST}, {LEAST, 0, 1}, {0, LEAST, 1}, {LEAST, LEAST, LEAST}, {MOST, MOST, 2}, {5, 3, -1}};
        for (int[] a : wrongs) due(a[0] + " to " + a[1] + ", " + a[2] + " of them", x.shift(0, a[0], 1, a[1], a[2]), -13);
        holds("from", x, 0, 1, 2, 3, 4, 5);
        holds("to", x, 1, 6, 7, 8);
        sentence("P37: n elements, 0 to all: n");
        due("none", x.shift(0, 0, 1, 0, 0), 0);
        due("none at the ends", x.shift(0, 5, 1, 3, 0), 0);
        holds("to", x, 1, 6, 7, 8);
        due("the last to the last", x.shift(0, 4, 1, 2, 1), 1);
        holds("to", x, 1, 6, 7, 5);
        due("the first to the first", x.shift(0, 0, 1, 0, 1), 1);
        holds("to", x, 1, 1, 7, 5);
        due("all places", x.shift(0, 2, 1, 0, 3), 3);
        holds("to", x, 1, 3, 4, 5);
        due("all of the shorter", x.shift(1, 0, 0, 2, 3), 3);
        holds("from", x, 0, 1, 2, 3, 4, 5);
        x.row(2, 2, 0);
        due("none of a ROW of none", x.shift(2, 0, 2, 0, 0), 0);
        due("one of a ROW of none", x.shift(2, 0, 2, 0, 1), -13);
        sentence("P37: of each sort, 60 elements");
        for (int sort = 0; sort <= 4; sort++) {
            x.row(3, sort, 60);
            x.row(4, sort, 60);
            x.put(3, 0, 1);
            x.put(3, 59, 1);
            due("60 of sort " + sort, x.shift(3, 0, 4, 0, 60), 60);
            due("the first", x.element(4, 0), 1);
            due("the second", x.element(4, 1), 0);
            due("the last", x.element(4, 59), 1);
            due("61", x.shift(3, 0, 4, 0, 61), -13);
        }
    }

    private static void shiftAsBefore() {
        sentence("P37: to another one (or the same), as they all were before");
        for (int i = 0; i <= 4; i++) {
            for (int j = 0; j <= 4; j++) {
                for (int n = 0; n <= 5; n++) {
                    TurnsOneWay x = new TurnsOneWay();
                    long[] values = {11, 12, 13, 14, 15};
                    row(x, 0, 3, values);
                    boolean fits = i + n <= 5 && j + n <= 5;
                    due(n + " from " + i + " to " + j, x.shift(0, i, 0, j, n), fits ? n : -13);
                    if (fits) System.arraycopy(values.clone(), i, values, j, n);
                    holds(n + " from " + i + " to " + j, x, 0, values);
                }
            }
        }
    }

    private static void shiftRefusals() {
        sentence("P37: BAD, -11 (either), -12 (no ROWS, or of unlike sorts), -13, of several the one named first");
        TurnsOneWay x = ofKinds();
        x.keep(1, 0);
        row(x, 2, 0, 1, 2);
        row(x, 3, 1, 3, 4);
        // nothing on 0, a BODY on 1, bytes on 2, shorts on 3
        int[][] dues = {{6, 0, -1}, {0, 6, -1}, {-1, 1, -1}, {1, -1, -1}, {6, 6, -1}, {6, 2, -1}, {2, 6, -1}, {0, 0, -11}, {0, 1, -11}, {1, 0, -11},
            {0, 2, -11}, {2, 0, -11}, {1, 1, -12}, {1, 2, -12}, {2, 1, -12}, {2, 3, -12}, {3, 2, -12}, {2, 2, -13}, {3, 3, -13}};
        for (int[] a : dues) {
            for (int[] b : new int[][] {{-1, 0, 1}, {0, 0, -1}, {0, 9, 1}, {0, 0, 9}}) {
                due("from " + a[0] + " to " + a[1], x.shift(a[0], b[0], a[1], b[1], b[2]), a[2]);
            }
            if (a[2] != -13) due("with places that are there: " + a[0] + " to " + a[1], x.shift(a[0], 0, a[1], 0, 1), a[2]);
        }
        holds("bytes", x, 2, 1, 2);
        holds("shorts", x, 3, 3, 4);
        sentence("P37: of unlike sorts, each two");
        for (int sort = 0; sort <= 4; sort++) {
            for (int other = 0; other <= 4; other++) {
                x.row(4, sort, 1);
                x.row(5, other, 1);
                due(sort + " to " + other, x.shift(4, 0, 5, 0, 1), sort == other ? 1 : -12);
                due("none of " + sort + " to " + other, x.shift(4, 0, 5, 0, 0), sort == other ? 0 : -12);
            }
        }
    }

    private static void taken() {
        sentence("P38: taken for a BODY of KIND k (0 .. 7), or under it; -12");
        String[] above = {"0", "01", "02", "023", "024", "015", "06", "067"};
        TurnsOneWay x = ofKinds();
        for (int kind = 0; kind < 8; kind++) {
            x.keep(0, kind);
            for (int k = 0; k < 8; k++) due(kind + " for " + k, x.taken(0, k), above[kind].indexOf('0' + k) >= 0 ? kind : -12);
        }
        sentence("P38: BAD, -11, -12, of several the one named first");
        x.row(2, 3, 0);
        for (int k : new int[] {-1, 8, LEAST, MOST}) {
            for (int shelf = -1; shelf <= 6; shelf++) due("KIND " + k + " on " + shelf, x.taken(shelf, k), -1);
        }
        for (int shelf : new int[] {-1, 6, LEAST, MOST}) due("shelf " + shelf, x.taken(shelf, 0), -1);
        for (int k = 0; k < 8; k++) {
            due("nothing for " + k, x.taken(1, k), -11);
            due("a ROW for " + k, x.taken(2, k), -12);
        }
    }

    private static void counts() {
        sentence("P39: what 0 .. 6; BAD");
        TurnsOneWay x = World.rich();
        int[] dues = {3, 2, 3, 3, 2, 8, 10};
        for (int what = 0; what <= 6; what++) due("count " + what, x.count(what), dues[what]);
        for (int what : new int[] {-1, 7, LEAST, MOST}) due("count " + what, x.count(what), -1);
        sentence("P39: each when full");
        x = World.full();
        int[] full = {6, 4, 40, 120, 40, 50, 0};
        for (int what = 0; what <= 6; what++) due("count " + what, x.count(what), full[what]);
    }
}
