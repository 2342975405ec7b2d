import java.lang.reflect.InvocationTargetException;
import java.lang.reflect.Method;
import java.util.ArrayList;
import java.util.Arrays;
import java.util.List;

/**
 * Each argument of each call, at either end: the last value that is allowed, the first that is not,
 * and the ends of an int. What is not allowed is answered as the promise says, and changes nothing.
 */
public final class RangesTest {
    private static final int LEAST = Integer.MIN_VALUE, MOST = Integer.MAX_VALUE;
    private static final int BAD = -1, VOID = -2000000000;
    private static final Check CHECK = new Check();

    /** A call on a rich object (World), by values that are all allowed. */
    private final String name;
    private final int[] usual;
    private final Method method;

    private RangesTest(String name, int... usual) {
        this.name = name;
        this.usual = usual;
        Method found = null;
        for (Method m : TurnsOneWay.class.getDeclaredMethods()) {
            if (m.getName().equals(name)) found = m;
        }
        method = found;
    }

    private long answer(TurnsOneWay x, int... values) {
        Object[] given = new Object[values.length];
        for (int i = 0; i < values.length; i++) {
            boolean isLong = method.getParameterTypes()[i] == long.class;
            given[i] = isLong ? (Object) (long) values[i] : (Object) values[i];
        }
        try {
            return ((Number) method.invoke(x, given)).longValue();
        } catch (IllegalAccessException | InvocationTargetException e) {
            throw new IllegalStateException(name + Arrays.toString(values), e);
        }
    }

    private int[] with(int at, int v) {
        int[] values = usual.clone();
        values[at] = v;
        return values;
    }

    private RangesTest allows(int at, int... goods) {
        for (int v : goods) {
            int[] values = with(at, v);
            long got = answer(World.rich(), values);
            boolean refused = got == BAD || got == VOID || got <= -11 && got >= -14 || got == Long.MIN_VALUE;
            CHECK.due(name + Arrays.toString(values) + " is allowed, answered " + got, refused ? 1 : 0, 0);
        }
        return this;
    }

    private RangesTest refuses(long refusal, int at, int... wrongs) {
        for (int v : wrongs) {
            int[] values = with(at, v);
            World.refused(CHECK, World.RICH, name + Arrays.toString(values), refusal, x -> answer(x, values));
        }
        return this;
    }

    /** The argument is least .. most; what is beyond is refused. */
    private RangesTest within(long refusal, int at, int least, int most) {
        allows(at, least, most);
        List<Integer> wrongs = new ArrayList<>();
        if (least > LEAST) wrongs.addAll(List.of(least - 1, LEAST));
        if (most < MOST) wrongs.addAll(List.of(most + 1, MOST));
        return refuses(refusal, at, wrongs.stream().mapToInt(i -> i).toArray());
    }

    private RangesTest stone(long refusal, int at) { return within(refusal, at, 0, 2); }

    /** 10 times the STONE and the FLOOR, 9: none; there are 3 and 2. */
    private RangesTest sf(long refusal) {
        allows(0, 0, 1, 9, 20, 21, 29);
        return refuses(refusal, 0, 2, 3, 7, 8, 12, 18, 22, 28, 30, 39, 90, -1, -9, -10, -11, LEAST, LEAST + 8, MOST, MOST - 7);
    }

    private RangesTest start(long refusal, int at) { return within(refusal, at, -999, 999); }

    private RangesTest rattles(long refusal, int at) { return within(refusal, at, 0, 999999); }

    private static RangesTest call(String promise, String name, int... usual) {
        CHECK.sentence(promise + ": " + name);
        return new RangesTest(name, usual);
    }

    public static void main(String[] args) {
        sameWorld();
        texts();
        sets();
        goings();
        thoughts();
        films();
        acts();
        shelves();
        CHECK.close();
    }

    private static void sameWorld() {
        CHECK.sentence("Answers: what is answered so changes nothing");
        for (String sort : List.of(World.NEW, World.RICH, World.FULL)) {
            CHECK.due("two " + sort + " objects are alike", World.picture(World.of(sort)).equals(World.picture(World.of(sort))) ? 1 : 0, 1);
        }
    }

    private static void texts() {
        call("P2", "feed", 1, 'x').within(BAD, 0, 1, 4).allows(1, LEAST, -1, 0, MOST);
        call("P4", "of", 0, 1).stone(VOID, 0).within(VOID, 1, 0, 9);
        call("P5", "lump", 0, 0, 0).stone(VOID, 0).within(VOID, 1, 0, 1).within(VOID, 2, 0, 2);
        call("P5", "lump", 2, 0, 0).within(VOID, 1, 0, 0);
        call("P8", "grows", 0, 1).stone(BAD, 0).allows(1, 1, -1).refuses(BAD, 1, 0, 2, -2, LEAST, MOST);
    }

    private static void sets() {
        call("P6", "set", 0, 6, 1).stone(BAD, 0).refuses(BAD, 1, 5, 0, -1, LEAST).allows(1, 6, 11).refuses(BAD, 1, 12, 16, MOST);
        call("P6", "set", 0, 6, 1).within(BAD, 2, 0, 999);
        call("P6", "set", 0, 7, 1).within(BAD, 2, 0, 999);
        call("P6", "set", 0, 8, 1).within(BAD, 2, 0, 100);
        call("P6", "set", 0, 9, 1).within(BAD, 2, 0, 100);
        call("P6", "set", 0, 10, 1).within(BAD, 2, 1, 9);
        call("P6", "set", 0, 11, 1).within(BAD, 2, 1, 9);
        call("P6", "set", 2, 10, 1).refuses(BAD, 1, 11, 12, 21, 22);
    }

    private static void goings() {
        call("P9", "roll", 0, 0, 0, 1).sf(VOID).start(VOID, 1).rattles(VOID, 2).within(VOID, 3, 0, 400);
        call("P10", "going", 0, 0).within(VOID, 0, -1, 20).within(VOID, 1, 0, 2);
        call("P10", "going", -1, 0).within(VOID, 1, 0, 0);
        call("P11", "back", 0).within(BAD, 0, -1, 1);
        call("P12", "told", 0).within(VOID, 0, 0, 4);
    }

    private static void thoughts() {
        call("P13", "even", 0, 0, 0, 0).stone(BAD, 0).start(BAD, 1).rattles(BAD, 2).within(BAD, 3, 0, 99);
        call("P14", "soonest", 0, 0, 0, 0).allows(0, 0, 1, 9).refuses(BAD, 0, 2, 8, 10, -1, LEAST, MOST)
            .start(BAD, 1).rattles(BAD, 2).within(BAD, 3, 0, 1);
        call("P15", "screws", 0, 1, 0).stone(BAD, 0).within(BAD, 1, 1, 9).within(BAD, 2, -9, 9);
        call("P16", "lightest", 0, 0).stone(BAD, 0).within(BAD, 1, -9, 9);
        call("P17", "seen", 0, 0, 0).sf(BAD).start(BAD, 1).rattles(BAD, 2);
        call("P18", "pressed", 0, 0).sf(VOID).rattles(VOID, 1);
        call("P19", "hands", 0, 0, 1).sf(BAD).allows(1, LEAST, -1, 0, 1, MOST).within(BAD, 2, 1, 20);
    }

    private static void films() {
        // the latest FRAME is of TICK 8
        call("P20", "frame", 9, 0).within(BAD, 0, 9, 400).refuses(BAD, 0, -1, 0, 7).within(BAD, 1, -9999, 9999);
        call("P21", "frames", 2, 0, 1).refuses(BAD, 0, -1, 6, LEAST, MOST).allows(1, LEAST, -1, 0, 3, 4, MOST).within(BAD, 2, 1, 30);
        call("P23", "off", 0, 0, 0).sf(BAD).rattles(BAD, 1).within(BAD, 2, -9, 9);
        call("P24", "shape", 0, 0, 0).sf(VOID).rattles(VOID, 1).within(VOID, 2, 0, 1);
        call("P25", "span", 0, 0, 0).sf(BAD).rattles(BAD, 1).within(BAD, 2, 0, MOST);
        call("P26", "which", 0, 0).stone(BAD, 0).rattles(BAD, 1);
        call("P27", "chance", 5, 0).within(BAD, 1, 0, 5);
        call("P27", "chance", 1, 0).within(BAD, 0, 1, 40).within(BAD, 1, 0, 1);
        call("P27", "chance", 40, 40).within(BAD, 1, 0, 40);
        call("P27", "chance", 40, 40).refuses(BAD, 0, 39, 1, 0);
    }

    private static void acts() {
        call("P30", "body", 0).within(BAD, 0, 0, 7);
        call("P31", "act", 0, 0, 5).allows(0, 0, 1, 6, 7).allows(1, 0, 1, 2, 3).allows(2, LEAST, -2, 0, MOST);
        call("P32", "trace", 0).within(BAD, 0, 0, 9);
        call("P39", "count", 0).within(BAD, 0, 0, 6);
    }

    private static void shelves() {
        call("P33", "keep", 0, 0).within(BAD, 0, 0, 5).within(BAD, 1, -1, 7);
        call("P34", "row", 0, 0, 0).within(BAD, 0, 0, 5).within(BAD, 1, 0, 4);
        call("P34", "row", 0, 0, 0).allows(2, 0, 60).refuses(BAD, 2, 61, MOST).refuses(-14, 2, -1, LEAST);
        call("P35", "put", 2, 0, 0).refuses(BAD, 0, -1, 6, LEAST, MOST).within(-13, 1, 0, 3).allows(2, LEAST, 0, MOST);
        call("P36", "element", 2, 0).refuses(Long.MIN_VALUE, 0, -1, 6, LEAST, MOST).within(Long.MIN_VALUE, 1, 0, 3);
        call("P37", "shift", 2, 0, 2, 0, 1).refuses(BAD, 0, -1, 6, LEAST, MOST).within(-13, 1, 0, 3)
            .refuses(BAD, 2, -1, 6, LEAST, MOST).within(-13, 3, 0, 3).within(-13, 4, 0, 4);
        call("P38", "taken", 1, 0).refuses(BAD, 0, -1, 6, LEAST, MOST).allows(1, 0, 1, 5).refuses(BAD, 1, -1, 8, LEAST, MOST);
    }
}
