import java.util.ArrayList;
import java.util.List;
import java.util.function.ToLongFunction;

/** Objects in which something of everything stands, and pictures of all that calls can tell of them. */
final class World {
    static final String NEW = "new", RICH = "rich", FULL = "full";
    /** What the picture puts behind the tape's bytes: with them it is the text of a STONE, and so a FAULT elsewhere. */
    private static final String REST = "-3/1,2,3,4";

    static TurnsOneWay of(String sort) {
        return sort.equals(NEW) ? new TurnsOneWay() : sort.equals(RICH) ? rich() : full();
    }

    /** 3 STONES, 2 FLOORS, a GOING of 20 TICKS, changes either way, 3 FRAMES, 8 BODIES, 10 bodies ran, all SHELVES. */
    static TurnsOneWay rich() {
        TurnsOneWay x = new TurnsOneWay();
        feed(x, "2+9+1;7-9-1/12,345,67,8");
        x.stone();
        feed(x, "1+9+1;1-9-1/0,0,100,10");
        x.stone();
        feed(x, "1+0+0/1,2,3,4");
        x.stone();
        feed(x, "w=0?9;i>1?p/2");
        x.floor();
        feed(x, "v/3");
        x.floor();
        x.set(0, 6, 999);
        x.set(0, 10, 3);
        x.set(2, 10, 9);
        x.set(1, 9, 11);
        x.undo();
        x.undo();
        x.roll(19, 10, 200990, 20);
        x.frame(5, 100);
        x.frame(6, 40);
        x.frame(8, -10);
        for (int kind = 0; kind < 8; kind++) x.body(kind);
        x.act(7, 3, 5);
        x.keep(1, 5);
        for (int sort = 0; sort < 4; sort++) {
            x.row(2 + sort, (sort + 1) % 5, 4);
            for (int i = 0; i < 4; i++) x.put(2 + sort, i, 10 * sort + i);
        }
        feed(x, "9+1");
        return x;
    }

    /** Nothing more finds room: 6 STONES, 4 FLOORS, 120 bytes, 40 FRAMES, 50 BODIES, 40 changes. */
    static TurnsOneWay full() {
        TurnsOneWay x = new TurnsOneWay();
        for (int i = 0; i < 6; i++) {
            feed(x, "1+1+" + i + "/0,0,0," + i);
            x.stone();
        }
        for (int i = 0; i < 4; i++) {
            feed(x, "v/" + (i + 1));
            x.floor();
        }
        for (int i = 0; i < 41; i++) x.set(i % 6, 6, i + 1);
        for (int i = 0; i < 40; i++) x.frame(i, 10 * i);
        for (int i = 0; i < 50; i++) x.body(i % 8);
        for (int i = 0; i < 30; i++) x.feed(4, ';' << 24 | 'v' << 16 | ';' << 8 | 'v');
        return x;
    }

    static void feed(TurnsOneWay x, String text) {
        for (int at = 0; at < text.length(); at += 4) {
            int n = Math.min(4, text.length() - at);
            int v = 0;
            for (int i = 0; i < n; i++) v |= text.charAt(at + i) << 8 * i;
            x.feed(n, v);
        }
    }

    /** All that can be told of the object, which is spent by it. */
    static List<Long> picture(TurnsOneWay x) {
        List<Long> all = new ArrayList<>();
        for (int what = 0; what <= 6; what++) all.add((long) x.count(what));
        int stones = x.count(0), floors = x.count(1);
        going(x, all);
        for (int i = -1; i < 11; i++) all.add((long) x.trace(i));
        for (int shelf = 0; shelf < 6; shelf++) {
            int taken = x.taken(shelf, 0);
            all.add((long) taken);
            for (int i = 0; i < 5 && taken == -12; i++) all.add(x.element(shelf, i));
        }
        if (stones > 0) {
            stones(x, stones, all);
            film(x, floors, all);
        }
        changes(x, stones, all);
        tape(x, all);
        return all;
    }

    private static void going(TurnsOneWay x, List<Long> all) {
        int ticks = x.going(-1, 0);
        all.add((long) ticks);
        for (int tick = 0; tick <= ticks; tick++) {
            for (int what = 0; what < 3; what++) all.add((long) x.going(tick, what));
        }
        int backs = x.back(-1);
        for (int i = -1; i <= backs; i++) all.add((long) x.back(i));
        for (int what = 0; what < 5; what++) all.add((long) x.told(what));
    }

    private static void stones(TurnsOneWay x, int stones, List<Long> all) {
        for (int stone = 0; stone < stones; stone++) {
            for (int what = 0; what < 10; what++) all.add((long) x.of(stone, what));
            int lumps = x.of(stone, 0);
            for (int i = 0; i < lumps; i++) {
                for (int what = 0; what < 3; what++) all.add((long) x.lump(stone, i, what));
            }
        }
    }

    /** The FRAMES cannot be read: OFF by unlike goings tells them, and by each FLOOR it tells the FLOORS. */
    private static void film(TurnsOneWay x, int floors, List<Long> all) {
        for (int k = -3; k <= 3; k++) all.add((long) x.off(9, 500300, k));
        for (int floor = 0; floor < floors; floor++) all.add((long) x.off(floor, 500300, 2));
        all.add((long) x.which(0, 500300));
    }

    private static void changes(TurnsOneWay x, int stones, List<Long> all) {
        for (int done = x.count(4); done > 0; done--) change(x, all, x.undo(), stones);
        int left = x.redo();
        change(x, all, left, stones);
        for (; left > 0; left--) change(x, all, x.redo(), stones);
        all.add((long) x.redo());
    }

    private static void change(TurnsOneWay x, List<Long> all, int answer, int stones) {
        all.add((long) answer);
        // an object lives for 512 calls: of many changes one stone each is looked at
        boolean few = stones <= 3;
        for (int stone = 0; stone < stones; stone++) {
            if (few || answer % stones == stone) all.add((long) x.of(stone, 6));
            for (int what = 7; what < 10 && few; what++) all.add((long) x.of(stone, what));
            if (few) all.add((long) x.of(stone, 1));
        }
    }

    private static void tape(TurnsOneWay x, List<Long> all) {
        feed(x, REST);
        int stone = x.stone();
        all.add((long) stone);
        for (int what = 0; what < 3; what++) all.add((long) x.lump(stone, 0, what));
        all.add((long) x.count(3));
    }

    /** The call answers so, and changes nothing. */
    static void refused(Check check, String sort, String call, long answer, ToLongFunction<TurnsOneWay> asked) {
        TurnsOneWay x = of(sort);
        check.due(call + " on a " + sort + " object", asked.applyAsLong(x), answer);
        unchanged(check, sort, call, x);
    }

    static void unchanged(Check check, String sort, String call, TurnsOneWay x) {
        check.due(call + " on a " + sort + " object: nothing has changed", picture(x).equals(picture(of(sort))) ? 1 : 0, 1);
    }

    private World() { }
}
