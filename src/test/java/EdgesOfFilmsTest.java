/** The sentences of Terms 4 and 5 on FILMS and found stones, and of promises 20 to 27, that name a boundary case. */
public final class EdgesOfFilmsTest {
    private static final int VOID = -2000000000, LEAST = Integer.MIN_VALUE, MOST = Integer.MAX_VALUE;
    private static final Check CHECK = new Check();

    private static void due(String what, long got, long want) { CHECK.due(what, got, want); }

    private static void sentence(String words) { CHECK.sentence(words); }

    private static void film(TurnsOneWay x, int... ticksAndTurns) {
        x.cut();
        for (int i = 0; i < ticksAndTurns.length; i += 2) {
            due("frame " + i / 2, x.frame(ticksAndTurns[i], ticksAndTurns[i + 1]), i / 2);
        }
    }

    /** The FRAMES are these: without a slant and a floor OFF counts how far they are from the first. */
    private static void holds(TurnsOneWay x, int frames, int off) {
        due("frames", x.count(2), frames);
        due("their OFF", x.off(9, 0, 0), frames == 0 ? -5 : off);
    }

    public static void main(String[] args) {
        forty();
        frameTicks();
        frameTurns();
        cutting();
        rowsOfShorts();
        rowEnds();
        rowFrameWrong();
        rowFull();
        off();
        offTicks();
        offGreatest();
        shape();
        span();
        which();
        state();
        arguments();
        chance();
        chanceCut();
        CHECK.close();
    }

    private static void forty() {
        sentence("T4: FRAMES 0 .. 39; P20: FULL");
        TurnsOneWay x = Check.ofKeen(0, "0,0,0,0");
        for (int i = 0; i < 40; i++) due("frame", x.frame(2 * i, i), i);
        due("the 41st", x.frame(80, 0), -3);
        due("at the last TICK", x.frame(400, 9999), -3);
        holds(x, 40, 39 * 40 / 2);
        sentence("P20: BAD ahead of FULL");
        due("as late as the latest", x.frame(78, 0), -1);
        due("TICK 401", x.frame(401, 0), -1);
        due("TURN 10000", x.frame(80, 10000), -1);
        holds(x, 40, 39 * 40 / 2);
    }

    private static void frameTicks() {
        sentence("T4: a TICK (0 .. 400)");
        TurnsOneWay x = Check.ofKeen(0, "0,0,0,0");
        for (int tick : new int[] {-1, 401, LEAST, MOST}) due("TICK " + tick, x.frame(tick, 0), -1);
        due("none came", x.count(2), 0);
        due("TICK 0", x.frame(0, 0), 0);
        due("TICK 400", x.frame(400, 0), 1);
        for (int tick : new int[] {400, 401, 0, -1, LEAST, MOST}) due("behind 400: " + tick, x.frame(tick, 0), -1);
        x.cut();
        due("TICK 400 as the first", x.frame(400, 0), 0);
        sentence("T4: (.., they rise)");
        x.cut();
        due("7", x.frame(7, 0), 0);
        for (int tick : new int[] {7, 6, 0}) due("behind 7: " + tick, x.frame(tick, 0), -1);
        due("8", x.frame(8, 0), 1);
        due("7 once more", x.frame(7, 0), -1);
        due("8 once more", x.frame(8, 0), -1);
        due("10", x.frame(10, 0), 2);
        due("9", x.frame(9, 0), -1);
        due("frames", x.count(2), 3);
    }

    private static void frameTurns() {
        sentence("T4: a TURN (-9999 .. 9999)");
        TurnsOneWay x = Check.ofKeen(0, "0,0,0,0");
        for (int turn : new int[] {-10000, 10000, LEAST, MOST}) due("TURN " + turn, x.frame(0, turn), -1);
        holds(x, 0, 0);
        due("TURN -9999", x.frame(0, -9999), 0);
        for (int turn : new int[] {-10000, 10000, LEAST, MOST}) due("TURN " + turn, x.frame(1, turn), -1);
        due("TURN 9999", x.frame(1, 9999), 1);
        holds(x, 2, 19998);
    }

    private static void cutting() {
        sentence("P22: how many it had, 0 to 40; then none");
        TurnsOneWay x = Check.ofKeen(0, "0,0,0,0");
        due("of a new object", x.cut(), 0);
        for (int n : new int[] {1, 40, 0}) {
            for (int i = 0; i < n; i++) x.frame(400 - n + i, 1);
            due("had", x.cut(), n);
            due("has none", x.cut(), 0);
            holds(x, 0, 0);
        }
        sentence("P22: behind it the first FRAME may be of any TICK");
        due("0", x.frame(0, 0), 0);
    }

    private static void row(TurnsOneWay x, int shelf, int... values) {
        x.row(shelf, 1, values.length);
        for (int i = 0; i < values.length; i++) x.put(shelf, i, values[i]);
    }

    private static void rowsOfShorts() {
        sentence("P21: n (1 .. 30)");
        TurnsOneWay x = Check.ofKeen(0, "0,0,0,0");
        x.row(0, 1, 60);
        for (int i = 0; i < 30; i++) {
            x.put(0, 2 * i, 10 * i);
            x.put(0, 2 * i + 1, i);
        }
        for (int n : new int[] {0, 31, -1, LEAST, MOST}) due("n " + n, x.frames(0, 0, n), -1);
        holds(x, 0, 0);
        due("one", x.frames(0, 0, 1), 1);
        holds(x, 1, 0);
        x.cut();
        due("thirty", x.frames(0, 0, 30), 30);
        holds(x, 30, 29 * 30 / 2);
        x.cut();
        due("two from 4 on", x.frames(0, 4, 2), 2);
        holds(x, 2, 1);
        sentence("P21: the SHELF 0 .. 5; BAD ahead of -12 and of 0");
        for (int shelf : new int[] {-1, 6, LEAST, MOST}) due("shelf " + shelf, x.frames(shelf, 0, 1), -1);
        due("shelf 5 holds nothing", x.frames(5, 0, 1), 0);
        x.row(5, 0, 4);
        due("n 31 of bytes", x.frames(5, 0, 31), -1);
        due("n 0 of bytes from below 0", x.frames(5, -1, 0), -1);
        due("n 31 of nothing", x.frames(4, 0, 31), -1);
        due("n 0 of shorts from below 0", x.frames(0, -1, 0), -1);
        sentence("P21: -12 (no ROW of shorts; a SHELF that holds nothing is missing)");
        for (int sort : new int[] {0, 2, 3, 4}) {
            x.row(1, sort, 4);
            due("sort " + sort, x.frames(1, 0, 1), -12);
            due("sort " + sort + " from below 0", x.frames(1, -1, 1), -12);
            due("sort " + sort + " beyond its end", x.frames(1, 4, 1), -12);
        }
        x.row(1, 1, 0);
        due("shorts, none of them", x.frames(1, 0, 1), 0);
        x.body(0);
        x.keep(1, 0);
        due("a BODY", x.frames(1, 0, 1), -12);
        x.keep(1, -1);
        due("nothing", x.frames(1, 0, 1), 0);
        due("nothing, from below 0", x.frames(1, -1, 1), 0);
        holds(x, 2, 1);
    }

    private static void rowEnds() {
        sentence("P21: (0 with i below 0)");
        TurnsOneWay x = Check.ofKeen(0, "0,0,0,0");
        row(x, 0, 10, 1, 20, 2, 30, 3, 40);
        for (int i : new int[] {-1, -2, LEAST, LEAST + 1}) due("i " + i, x.frames(0, i, 3), 0);
        holds(x, 0, 0);
        sentence("T5: it ends where the row ends (within a two, too)");
        due("from 0", x.frames(0, 0, 30), 3);
        holds(x, 3, 3);
        x.cut();
        due("just as many as there are", x.frames(0, 0, 3), 3);
        x.cut();
        due("from 4", x.frames(0, 4, 30), 1);
        x.cut();
        for (int i : new int[] {6, 7, 8, 60, MOST, MOST - 1}) due("from " + i, x.frames(0, i, 30), 0);
        holds(x, 0, 0);
        row(x, 1, 1, 5, 2, 6);
        due("four are two", x.frames(1, 0, 30), 2);
        due("a row of one", one(), 0);
    }

    private static int one() {
        TurnsOneWay x = new TurnsOneWay();
        row(x, 0, 5);
        return x.frames(0, 0, 1);
    }

    private static void rowFrameWrong() {
        sentence("T5: it ends where one is not as it may be: those ahead came");
        int[][] wrongs = {{20, 2}, {19, 2}, {-1, 2}, {401, 2}, {32767, 2}, {-32768, 2}, {30, 10000}, {30, -10000}, {30, 32767}, {30, -32768}};
        for (int[] wrong : wrongs) {
            TurnsOneWay x = Check.ofKeen(0, "0,0,0,0");
            row(x, 0, 10, 1, 20, 2, wrong[0], wrong[1], 40, 4);
            due("TICK " + wrong[0] + ", TURN " + wrong[1], x.frames(0, 0, 4), 2);
            holds(x, 2, 1);
        }
        int[][] goods = {{21, 2}, {400, 2}, {30, 9999}, {30, -9999}};
        for (int[] good : goods) {
            TurnsOneWay x = Check.ofKeen(0, "0,0,0,0");
            row(x, 0, 10, 1, 20, 2, good[0], good[1]);
            due("TICK " + good[0] + ", TURN " + good[1], x.frames(0, 0, 4), 3);
        }
        sentence("T5: as it may be: its TICK above that of the latest FRAME");
        TurnsOneWay x = Check.ofKeen(0, "0,0,0,0");
        row(x, 0, 10, 1, 20, 2);
        x.frame(10, 0);
        due("as late", x.frames(0, 0, 2), 0);
        due("the second", x.frames(0, 2, 1), 1);
        due("once more", x.frames(0, 2, 1), 0);
        holds(x, 2, 2);
        x.cut();
        x.frame(9, 0);
        due("later", x.frames(0, 0, 2), 2);
        sentence("T5: what came stays when the row becomes another");
        x.put(0, 1, 1000);
        x.row(0, 1, 0);
        holds(x, 3, 1 + 2);
    }

    private static void rowFull() {
        sentence("T5: it ends where FRAMES are FULL: those ahead came");
        for (int had = 37; had <= 40; had++) {
            TurnsOneWay x = Check.ofKeen(0, "0,0,0,0");
            for (int i = 0; i < had; i++) x.frame(i, 0);
            row(x, 0, 50, 1, 60, 2, 70, 3);
            due("behind " + had, x.frames(0, 0, 3), 40 - had);
            holds(x, 40, new int[] {0, 1, 3, 6}[40 - had]);
        }
    }

    private static void off() {
        sentence("T4: OFF: the sum of sizes of differences of TURNS at all FRAMES");
        TurnsOneWay x = Check.ofKeen(2, "0,0,100,0");
        film(x, 5, 100);
        for (int k = -9; k <= 9; k++) due("of the first FRAME alone, by " + k, x.off(9, 999999, k), 0);
        film(x, 5, 100, 6, 90, 7, 110, 9, 100);
        due("less and more", x.off(9, 0, 0), 20);
        sentence("T4: OFF by a KEEN k (taken so)");
        // p 30 pushes in the first TICK: to 70 by k above 0, to 130 below
        due("k 1", x.off(9, 30000, 1), 20 + 40 + 30);
        due("k 9", x.off(9, 30000, 9), 20 + 40 + 30);
        due("k 0, and not the STONE's 2", x.off(9, 30000, 0), 20);
        due("k -1", x.off(9, 30000, -1), 40 + 20 + 30);
        due("k -9", x.off(9, 30000, -9), 40 + 20 + 30);
        sentence("P23: k (-9 .. 9)");
        for (int k : new int[] {-10, 10, LEAST, MOST}) due("k " + k, x.off(9, 0, k), -1);
    }

    private static void offTicks() {
        sentence("T4: as the START at its TICK: the TICKS go on from that of the first FRAME");
        TurnsOneWay x = Check.ofKeen(0, "0,0,0,0");
        Check.floor(x, "9*(i=6)");
        Check.floor(x, "9*(i<6)");
        film(x, 5, 100, 6, 91, 9, 91);
        due("the first TICK is the sixth", x.off(0, 0, 0), 0);
        due("none is ahead of it", x.off(1, 0, 0), 18);
        film(x, 6, 100, 7, 100);
        due("none is the sixth", x.off(0, 0, 0), 0);
        sentence("T4: FRAMES at TICKS 0 and 400");
        Check.floor(x, "i=1|i=400");
        film(x, 0, 100, 400, 98);
        due("400 TICKS", x.off(2, 0, 0), 0);
        film(x, 0, 100, 399, 99);
        due("399 TICKS", x.off(2, 0, 0), 0);
        film(x, 399, 100, 400, 99);
        due("the 400th alone", x.off(2, 0, 0), 0);
        film(x, 400, 100);
        due("none", x.off(2, 0, 0), 0);
        sentence("T4: FRAMES need not be of TICKS one behind the other");
        Check.floor(x, "1");
        film(x, 3, 100, 4, 99, 10, 93, 11, 92, 100, 3, 103, 0, 104, 0);
        due("one a TICK", x.off(3, 0, 0), 0);
    }

    private static void offGreatest() {
        sentence("T4: OFF, SHAPE, SPAN at the greatest sum");
        TurnsOneWay x = Check.ofKeen(2, "999,999,100,100");
        for (int i = 0; i < 40; i++) x.frame(i, i == 0 ? -9999 : 9999);
        int most = 39 * 19998;
        due("OFF", x.off(9, 0, 0), most);
        due("SHAPE", x.shape(9, 0, 1), most);
        due("of like ones the least k", x.shape(9, 0, 0), -9);
        due("SPAN by one less", x.span(9, 0, most - 1), 0);
        due("SPAN", x.span(9, 0, most), 19);
    }

    private static void shape() {
        sentence("T4: SHAPE: of k -9 .. 9 that with the least OFF");
        // by u = s k the first TICK gives a RATTLE 55 * s k * 999 by 1000000, which pushes back with it
        for (int k = -9; k <= 9; k++) {
            TurnsOneWay x = Check.ofKeen(0, "999,999,100,100");
            int g = (int) (55L * 999 * Math.abs(k) * 999 / 1000000);
            // what has fed a RATTLE, all that it has pushes the TURN away from its side
            int then = 999 - g - (k == 0 ? 0 : 55 + g);
            film(x, 0, 999, 1, then);
            due("the least OFF is by " + k, x.shape(9, k < 0 ? 55 : 55000, 0), k);
            due("it is 0", x.shape(9, k < 0 ? 55 : 55000, 1), 0);
        }
        sentence("T4: SHAPE: (of like ones the least)");
        TurnsOneWay x = Check.ofKeen(0, "0,0,100,0");
        film(x, 0, 100, 1, 100);
        due("all are alike", x.shape(9, 0, 0), -9);
        due("of -9 .. -1 alike", shapeOf(x, 110), -9);
        due("of 1 .. 9 alike", shapeOf(x, 90), 1);
        due("0 alone", shapeOf(x, 100), 0);
        due("of all but 0: as far to either side", shapeOf(x, 105), -9);
        due("of 0 .. 9: as far to either side", shapeOf(x, 95), 0);
        sentence("P24: VOID: BAD; what 0, 1");
        for (int what : new int[] {-1, 2, LEAST, MOST}) due("what " + what, x.shape(9, 0, what), VOID);
    }

    private static int shapeOf(TurnsOneWay x, int turn) {
        film(x, 0, 100, 1, turn);
        return x.shape(9, 10000, 0);
    }

    private static void span() {
        sentence("T4: SPAN: how many k have at most so much OFF");
        TurnsOneWay x = Check.ofKeen(0, "0,0,100,0");
        film(x, 0, 100, 1, 97);
        // by k above 0 90: 7; by 0 100: 3; below 0 110: 13
        int[][] dues = {{0, 0}, {2, 0}, {3, 1}, {6, 1}, {7, 10}, {12, 10}, {13, 19}, {14, 19}, {MOST, 19}};
        for (int[] a : dues) due("bound " + a[0], x.span(9, 10000, a[0]), a[1]);
        sentence("P25: a bound (0 ..); BAD");
        for (int bound : new int[] {-1, LEAST}) due("bound " + bound, x.span(9, 10000, bound), -1);
        film(x, 0, 100);
        due("bound 0 of one FRAME", x.span(9, 10000, 0), 19);
    }

    private static void which() {
        sentence("T4: WHICH FLOOR: of all FLOORS that with the least OFF (of like ones the first)");
        for (int best = 0; best < 4; best++) {
            TurnsOneWay x = Check.ofKeen(2, "0,0,0,0");
            film(x, 0, 100, 1, 95);
            for (int i = 0; i < 4; i++) Check.floor(x, i == best ? "5" : "" + (8 - i));
            due("floor " + best, x.which(0, 0), best);
        }
        TurnsOneWay x = Check.ofKeen(2, "0,0,0,0");
        film(x, 0, 100, 1, 95);
        for (String text : new String[] {"0", "6", "4", "6"}) Check.floor(x, text);
        due("of like ones the first", x.which(0, 0), 1);
        due("its FRAMES are left", x.count(2), 2);
        sentence("P26: of each STONE 0 .. 5 each FLOOR 0 .. 3");
        for (int stone = 0; stone < 6; stone++) {
            for (int best = 0; best < 4; best++) {
                TurnsOneWay y = new TurnsOneWay();
                for (int i = 0; i < 6; i++) Check.stone(y, "1+9+1;1-9-1/0,0," + (i == stone ? 100 : 0) + ",0");
                // p pushes 10 in the first TICK, and what the FLOOR leaves of the others is too much
                film(y, 0, 100, 1, 85);
                for (int i = 0; i < 4; i++) Check.floor(y, i == best ? "w=0?5" : "w=0?" + (i < 2 ? 0 : 20));
                due("floor " + best + " by " + stone, y.which(stone, 10000), best);
            }
        }
        sentence("T4: WHICH FLOOR: by the STONE's own KEEN");
        x = Check.ofThree("0,0,100,0");
        film(x, 0, 100, 1, 80);
        for (String text : new String[] {"0", "w=0?10", "w=0?20"}) Check.floor(x, text);
        due("KEEN 0", x.which(0, 10000), 2);
        due("KEEN 2", x.which(1, 10000), 1);
        sentence("T4: STATE: (no FLOORS); one FLOOR is enough");
        x = Check.ofThree("0,0,100,0");
        film(x, 0, 100, 1, 80);
        due("no FLOORS", x.which(0, 0), -5);
        due("a FAULT is none", Check.floor(x, "x"), -100);
        due("no FLOORS still", x.which(0, 0), -5);
        Check.floor(x, "9999");
        due("the only", x.which(0, 0), 0);
        x.cut();
        due("no FRAMES", x.which(0, 0), -5);
        due("neither", Check.ofThree("0,0,0,0").which(0, 0), -5);
    }

    private static void state() {
        sentence("T4: STATE: no FRAMES");
        TurnsOneWay x = Check.ofKeen(2, "0,0,0,0");
        Check.floor(x, "1");
        for (int round = 0; round < 2; round++) {
            due("off", x.off(0, 0, 0), -5);
            for (int what = 0; what < 2; what++) due("shape " + what, x.shape(0, 0, what), -5);
            due("span", x.span(0, 0, 0), -5);
            due("which", x.which(0, 0), -5);
            x.frame(0, 0);
            due("off of a FRAME", x.off(0, 0, 0), 0);
            x.cut();
        }
        sentence("P23 to P26: BAD ahead of STATE");
        for (int sf : new int[] {-1, 1, 8, 10, LEAST, MOST}) {
            due("off", x.off(sf, 0, 0), -1);
            due("shape", x.shape(sf, 0, 0), VOID);
            due("span", x.span(sf, 0, 0), -1);
        }
        due("off k 10", x.off(0, 0, 10), -1);
        due("off pq -1", x.off(0, -1, 0), -1);
        due("shape what 2", x.shape(0, 0, 2), VOID);
        due("shape pq 1000000", x.shape(0, 1000000, 0), VOID);
        due("span bound -1", x.span(0, 0, -1), -1);
        due("span pq -1", x.span(0, -1, 0), -1);
        due("which stone 1", x.which(1, 0), -1);
        due("which pq 1000000", x.which(0, 1000000), -1);
        due("which, no FLOORS", Check.ofKeen(2, "0,0,0,0").which(0, -1), -1);
    }

    private static void arguments() {
        sentence("P23 to P26: sf, pq, a STONE; BAD");
        TurnsOneWay x = Check.ofKeen(2, "0,0,0,0");
        Check.floor(x, "1");
        film(x, 0, 100, 1, 99);
        for (int sf : new int[] {-1, -9, 1, 8, 10, 19, LEAST, MOST}) {
            due("off " + sf, x.off(sf, 0, 0), -1);
            due("shape " + sf, x.shape(sf, 0, 0), VOID);
            due("span " + sf, x.span(sf, 0, 0), -1);
        }
        for (int pq : new int[] {-1, 1000000, LEAST, MOST}) {
            due("off pq " + pq, x.off(0, pq, 0), -1);
            due("shape pq " + pq, x.shape(0, pq, 0), VOID);
            due("span pq " + pq, x.span(0, pq, 0), -1);
            due("which pq " + pq, x.which(0, pq), -1);
        }
        for (int stone : new int[] {-1, 1, 6, LEAST, MOST}) due("which " + stone, x.which(stone, 0), -1);
        due("off pq 999999", x.off(0, 999999, 9), 0);
        due("shape pq 999999", x.shape(9, 999999, 1), 1);
        due("span pq 999999", x.span(9, 999999, 1), 19);
        due("which pq 999999", x.which(0, 999999), 0);
    }

    private static void chance() {
        sentence("P27: n (1 .. 40), m (0 .. n); BAD");
        TurnsOneWay x = new TurnsOneWay();
        for (int n : new int[] {0, 41, -1, LEAST, MOST}) {
            for (int m : new int[] {0, 1, n}) due(m + " of " + n, x.chance(n, m), -1);
        }
        for (int n = 1; n <= 40; n++) {
            due("m -1 of " + n, x.chance(n, -1), -1);
            due("m one above " + n, x.chance(n, n + 1), -1);
        }
        due("m least", x.chance(5, LEAST), -1);
        due("m most", x.chance(5, MOST), -1);
        sentence("T4: as many, or more, turn to one side (whichever) as the greater of m and n less m");
        int[][] rows = {{1000, 1000}, {500, 1000, 500}, {250, 1000, 1000, 250}, {125, 625, 1000, 625, 125},
            {62, 375, 1000, 1000, 375, 62}};
        for (int n = 1; n <= 5; n++) {
            for (int m = 0; m <= n; m++) due(m + " of " + n, x.chance(n, m), rows[n - 1][m]);
        }
        sentence("T4: with m the half of n, all ways");
        for (int n = 2; n <= 40; n += 2) due("half of " + n, x.chance(n, n / 2), 1000);
        for (int n = 1; n <= 39; n += 2) {
            due("next to the half of " + n, x.chance(n, n / 2), 1000);
            due("on the other side", x.chance(n, n / 2 + 1), 1000);
        }
    }

    private static void chanceCut() {
        sentence("T4: of all 2 to the power of n ways thousandths (cut)");
        // by pairs of all ways: 2 by 1024, 2 by 2048 (0.97), and so on; 1 stone less 2 by 512
        TurnsOneWay x = new TurnsOneWay();
        int[][] dues = {{9, 9, 3}, {10, 10, 1}, {11, 11, 0}, {10, 0, 1}, {11, 0, 0}, {40, 40, 0}, {40, 0, 0}, {40, 21, 874},
            {40, 19, 874}, {40, 29, 6}, {40, 11, 6}, {39, 39, 0}, {39, 20, 1000}, {10, 9, 21}, {20, 15, 41}};
        for (int[] a : dues) due(a[1] + " of " + a[0], x.chance(a[0], a[1]), a[2]);
        for (int n = 1; n <= 20; n++) {
            int[] ways = new int[n + 1];
            for (int way = 0; way < 1 << n; way++) ways[Integer.bitCount(way)]++;
            for (int m = 0; m <= n; m++) {
                long many = 0;
                for (int left = 0; left <= n; left++) many += Math.max(left, n - left) >= Math.max(m, n - m) ? ways[left] : 0;
                if (m % 3 == n % 3) due(m + " of " + n, x.chance(n, m), many * 1000 >> n);
            }
        }
    }
}
