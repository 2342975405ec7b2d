import java.util.function.ToLongFunction;

/**
 * "What is answered so changes nothing": each call that is refused, by what stands (full, empty, of
 * another kind) rather than by its arguments' ends, which RangesTest tries.
 */
public final class RefusedTest {
    private static final int VOID = -2000000000;
    private static final Check CHECK = new Check();

    private static void refused(String sort, String call, long answer, ToLongFunction<TurnsOneWay> asked) {
        World.refused(CHECK, sort, call, answer, asked);
    }

    public static void main(String[] args) {
        onFull();
        onNew();
        onRich();
        onRichShelves();
        noActs();
        CHECK.close();
    }

    private static void onFull() {
        String full = World.FULL;
        CHECK.sentence("FULL changes nothing: P2, P3, P7, P20, P30");
        for (int n = 1; n <= 4; n++) {
            int bytes = n;
            refused(full, "feed(" + n + ", 0)", -3, x -> x.feed(bytes, 0));
        }
        refused(full, "stone()", -3, x -> x.stone());
        refused(full, "floor()", -3, x -> x.floor());
        refused(full, "frame(40, 0)", -3, x -> x.frame(40, 0));
        refused(full, "frame(400, 9999)", -3, x -> x.frame(400, 9999));
        refused(full, "body(0)", -3, x -> x.body(0));
        CHECK.sentence("BAD ahead of FULL changes nothing");
        refused(full, "feed(0, 0)", -1, x -> x.feed(0, 0));
        refused(full, "feed(5, 0)", -1, x -> x.feed(5, 0));
        refused(full, "frame(39, 0)", -1, x -> x.frame(39, 0));
        refused(full, "frame(401, 0)", -1, x -> x.frame(401, 0));
        refused(full, "body(8)", -1, x -> x.body(8));
        CHECK.sentence("of 40 changes none goes by a call that makes none");
        refused(full, "set(0, 6, 1000)", -1, x -> x.set(0, 6, 1000));
        refused(full, "set(4, 6, 41), as it stands", 41, x -> x.set(4, 6, 41));
        refused(full, "redo()", -5, x -> x.redo());
    }

    private static void onNew() {
        String none = World.NEW;
        CHECK.sentence("STATE, VOID, NOT of a new object change nothing");
        refused(none, "undo()", -5, x -> x.undo());
        refused(none, "redo()", -5, x -> x.redo());
        refused(none, "back(-1)", -5, x -> x.back(-1));
        refused(none, "back(0)", -5, x -> x.back(0));
        refused(none, "back(-2)", -1, x -> x.back(-2));
        refused(none, "told(0)", VOID, x -> x.told(0));
        refused(none, "going(0, 0)", VOID, x -> x.going(0, 0));
        refused(none, "going(-1, 0)", VOID, x -> x.going(-1, 0));
        refused(none, "soonest(9, 0, 0, 0)", -2, x -> x.soonest(9, 0, 0, 0));
        refused(none, "roll(9, 0, 0, 0)", VOID, x -> x.roll(9, 0, 0, 0));
        refused(none, "off(9, 0, 0)", -1, x -> x.off(9, 0, 0));
        refused(none, "shape(9, 0, 0)", VOID, x -> x.shape(9, 0, 0));
        refused(none, "span(9, 0, 0)", -1, x -> x.span(9, 0, 0));
        refused(none, "which(0, 0)", -1, x -> x.which(0, 0));
        refused(none, "act(0, 0, 0)", 0, x -> x.act(0, 0, 0));
        refused(none, "trace(0)", -1, x -> x.trace(0));
        refused(none, "keep(0, 0)", -1, x -> x.keep(0, 0));
        refused(none, "put(0, 0, 1)", -11, x -> x.put(0, 0, 1));
        refused(none, "element(0, 0)", Long.MIN_VALUE, x -> x.element(0, 0));
        refused(none, "shift(0, 0, 1, 0, 0)", -11, x -> x.shift(0, 0, 1, 0, 0));
        refused(none, "taken(0, 0)", -11, x -> x.taken(0, 0));
        refused(none, "frames(0, 0, 30)", 0, x -> x.frames(0, 0, 30));
        refused(none, "stone() of an empty tape", -100, x -> x.stone());
        refused(none, "floor() of an empty tape", -100, x -> x.floor());
        refused(none, "cut() of none", 0, x -> x.cut());
    }

    private static void onRich() {
        String rich = World.RICH;
        CHECK.sentence("NOT changes nothing: P12, P14, P15, P17");
        refused(rich, "told(0)", -2, x -> x.told(0));
        refused(rich, "soonest(9, 0, 0, 0)", -2, x -> x.soonest(9, 0, 0, 0));
        refused(rich, "soonest(9, 0, 0, 1)", -2, x -> x.soonest(9, 0, 0, 1));
        refused(rich, "screws(0, 1, 9)", -2, x -> x.screws(0, 1, 9));
        refused(rich, "seen(9, 0, 0)", -2, x -> x.seen(9, 0, 0));
        CHECK.sentence("what is in thought changes nothing: P13 to P19, P23 to P27");
        refused(rich, "even(1, 10, 200990, 0)", 2, x -> x.even(1, 10, 200990, 0));
        refused(rich, "soonest(9, 10, 200990, 1)", 1, x -> x.soonest(9, 10, 200990, 1));
        refused(rich, "screws(2, 9, 9)", 0, x -> x.screws(2, 9, 9));
        refused(rich, "lightest(0, 9)", 2, x -> x.lightest(0, 9));
        refused(rich, "seen(19, 10, 200990)", 1, x -> x.seen(19, 10, 200990));
        refused(rich, "pressed(29, 999999)", 0, x -> x.pressed(29, 999999));
        refused(rich, "hands(29, 7, 20)", 0, x -> x.hands(29, 7, 20));
        refused(rich, "off(29, 0, 0)", 170, x -> x.off(29, 0, 0));
        refused(rich, "shape(29, 0, 1)", 170, x -> x.shape(29, 0, 1));
        refused(rich, "span(29, 0, 169)", 0, x -> x.span(29, 0, 169));
        refused(rich, "which(2, 0)", 1, x -> x.which(2, 0));
        refused(rich, "chance(40, 40)", 0, x -> x.chance(40, 40));
        CHECK.sentence("a set() to what stands is no change, and leaves what may be DONE AGAIN");
        refused(rich, "set(0, 6, 999)", 999, x -> x.set(0, 6, 999));
        refused(rich, "set(1, 9, 10)", 10, x -> x.set(1, 9, 10));
        refused(rich, "set(0, 10, 3)", 3, x -> x.set(0, 10, 3));
    }

    private static void onRichShelves() {
        String rich = World.RICH;
        CHECK.sentence("-11 to -14 change nothing: P21, P34 to P38");
        refused(rich, "put(0, 0, 1)", -11, x -> x.put(0, 0, 1));
        refused(rich, "put(1, 0, 1)", -12, x -> x.put(1, 0, 1));
        refused(rich, "put(2, 4, 1)", -13, x -> x.put(2, 4, 1));
        refused(rich, "element(1, 0)", Long.MIN_VALUE, x -> x.element(1, 0));
        refused(rich, "shift(2, 0, 0, 0, 1)", -11, x -> x.shift(2, 0, 0, 0, 1));
        refused(rich, "shift(1, 0, 2, 0, 1)", -12, x -> x.shift(1, 0, 2, 0, 1));
        refused(rich, "shift(2, 0, 1, 0, 1)", -12, x -> x.shift(2, 0, 1, 0, 1));
        refused(rich, "shift(2, 0, 3, 0, 1)", -12, x -> x.shift(2, 0, 3, 0, 1));
        refused(rich, "shift(2, 0, 2, 1, 4)", -13, x -> x.shift(2, 0, 2, 1, 4));
        refused(rich, "shift(2, 1, 2, 0, -1)", -13, x -> x.shift(2, 1, 2, 0, -1));
        refused(rich, "row(2, 1, -1)", -14, x -> x.row(2, 1, -1));
        refused(rich, "row(1, 1, -1)", -14, x -> x.row(1, 1, -1));
        refused(rich, "row(2, 1, 61)", -1, x -> x.row(2, 1, 61));
        refused(rich, "row(2, 5, 1)", -1, x -> x.row(2, 5, 1));
        refused(rich, "taken(0, 0)", -11, x -> x.taken(0, 0));
        refused(rich, "taken(1, 2)", -12, x -> x.taken(1, 2));
        refused(rich, "taken(2, 0)", -12, x -> x.taken(2, 0));
        refused(rich, "frames(1, 0, 1) of a BODY", -12, x -> x.frames(1, 0, 1));
        refused(rich, "frames(3, 0, 1) of ints", -12, x -> x.frames(3, 0, 1));
        refused(rich, "frames(0, 0, 1) of nothing", 0, x -> x.frames(0, 0, 1));
        refused(rich, "frames(2, -1, 1)", 0, x -> x.frames(2, -1, 1));
        refused(rich, "frames(2, 0, 1), not rising", 0, x -> x.frames(2, 0, 1));
        refused(rich, "frames(2, 3, 1), within a two", 0, x -> x.frames(2, 3, 1));
        CHECK.sentence("moving nothing, or all to where it is, changes nothing: P37");
        refused(rich, "shift(2, 4, 2, 4, 0)", 0, x -> x.shift(2, 4, 2, 4, 0));
        refused(rich, "shift(2, 0, 2, 0, 4)", 4, x -> x.shift(2, 0, 2, 0, 4));
    }

    /** Of no such BODY or ACT the TRACE goes, and nothing else. */
    private static void noActs() {
        CHECK.sentence("P31: 0, and no TRACE then: all else stays");
        int[][] wrongs = {{8, 0}, {-1, 0}, {0, 4}, {0, -1}};
        for (int[] a : wrongs) {
            TurnsOneWay x = World.rich();
            CHECK.due("act(" + a[0] + ", " + a[1] + ")", x.act(a[0], a[1], 5), 0);
            CHECK.due("none ran", x.count(6), 0);
            CHECK.due("an act again", x.act(7, 3, 5), 15);
            World.unchanged(CHECK, World.RICH, "act(" + a[0] + ", " + a[1] + ")", x);
        }
    }
}
