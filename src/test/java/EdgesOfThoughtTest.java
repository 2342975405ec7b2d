/** The sentences of Terms 3, and of promises 13 to 19, that name a boundary case. */
public final class EdgesOfThoughtTest {
    private static final int VOID = -2000000000, NOT = -2, LEAST = Integer.MIN_VALUE, MOST = Integer.MAX_VALUE;
    private static final Check CHECK = new Check();

    /** Of KEEN 3, without a FLOOR, it first turns back at TICK 400 from the first START, at 401 from the second. */
    private static final String LATE = "1+1+5;1-1-5/13,0,1,1";
    private static final int[] AT_400 = {674, 31255}, AT_401 = {723, 23491};

    private static void due(String what, long got, long want) { CHECK.due(what, got, want); }

    private static void sentence(String words) { CHECK.sentence(words); }

    private static TurnsOneWay of(String... stones) {
        TurnsOneWay x = new TurnsOneWay();
        for (String text : stones) Check.stone(x, text);
        return x;
    }

    public static void main(String[] args) {
        goingStays();
        even();
        evenArguments();
        evenAlone();
        soonest();
        soonestLate();
        soonestGrounds();
        soonestArguments();
        screws();
        screwsAsLumps();
        lightest();
        seen();
        seenLate();
        pressed();
        hands();
        draws();
        handsLate();
        CHECK.close();
    }

    private static void goingStays() {
        sentence("T3: (All that follows is in thought: THE GOING stays.");
        TurnsOneWay none = of(LATE);
        none.frame(0, 5);
        think(none);
        due("none is none still", none.back(-1), -5);
        due("no TICKS", none.going(-1, 0), VOID);
        TurnsOneWay x = of(LATE);
        x.roll(9, 5, 0, 2);
        x.frame(0, 5);
        think(x);
        due("TICKS", x.going(-1, 0), 2);
        for (int tick = 0; tick <= 2; tick++) due("s", x.going(tick, 0), 5);
        due("turns back", x.back(-1), 0);
        due("TURNED", x.told(1), 10);
        due("LOST", x.told(2), 0);
        due("KEEN stays", x.of(0, 5), 3);
        due("LUMPS stay", x.of(0, 0), 2);
        due("no changes", x.count(4), 0);
    }

    private static void think(TurnsOneWay x) {
        x.even(0, 674, 31255, 7);
        x.soonest(9, 674, 31255, 0);
        x.screws(0, 9, 9);
        x.lightest(0, 9);
        x.seen(9, 674, 31255);
        x.pressed(9, 999999);
        x.hands(9, 7, 20);
        x.off(9, 999999, 9);
        x.shape(9, 999999, 0);
        x.span(9, 999999, 9);
    }

    private static void even() {
        sentence("T3: EVEN: on a floor that takes (v c and 99) / 100 of each, cut (c 0 .. 99)");
        String[] stones = {"1+9+1;1-9-1/999,999,30,7", "1+1-2;1-1+2/500,999,100,55", LATE};
        int[][] starts = {{500, 5005}, {-999, 999999}, {999, 20020}, {1, 100000}};
        for (int c = 0; c <= 99; c++) {
            TurnsOneWay x = of(stones);
            Check.floor(x, "(v*" + c + "+99)/100");
            for (int stone = 0; stone < 3; stone++) {
                for (int[] a : starts) {
                    x.roll(10 * stone, a[0], a[1], 400);
                    due("stone " + stone + ", s " + a[0] + ", c " + c, x.even(stone, a[0], a[1], c), x.back(-1));
                }
            }
        }
        sentence("T3: of what is there it takes 1 at least, but by c 0 nothing");
        TurnsOneWay x = of("1+9+1;1-9-1/0,0,50,0");
        // s 1 less 2 is -1, which c 1 takes up
        due("c 0", x.even(0, 1, 4000, 0), 1);
        due("c 1", x.even(0, 1, 4000, 1), 0);
        // -49: by 97 goes 48, by 98 all
        due("c 97", x.even(0, 1, 100000, 97), 1);
        due("c 98", x.even(0, 1, 100000, 98), 0);
        due("c 99", x.even(0, 1, 100000, 99), 0);
        sentence("T3: TICKS are 400: EVEN");
        TurnsOneWay late = of(LATE);
        due("at 400", late.even(0, AT_400[0], AT_400[1], 0), 1);
        due("at 401", late.even(0, AT_401[0], AT_401[1], 0), 0);
    }

    private static void evenArguments() {
        sentence("P13: c 0 .. 99; BAD");
        TurnsOneWay x = of("1+9+1;1-9-1/0,0,50,0");
        Check.floor(x, "v");
        due("the FLOORS that came are none of it", x.even(0, 1, 100000, 0), 1);
        for (int c : new int[] {-1, 100, LEAST, MOST}) due("c " + c, x.even(0, 1, 100000, c), -1);
        for (int stone : new int[] {-1, 1, 6, LEAST, MOST}) due("stone " + stone, x.even(stone, 1, 100000, 0), -1);
        for (int s : new int[] {-1000, 1000, LEAST, MOST}) due("s " + s, x.even(0, s, 100000, 0), -1);
        for (int pq : new int[] {-1, 1000000, LEAST, MOST}) due("pq " + pq, x.even(0, 1, pq, 0), -1);
        due("s -999", x.even(0, -999, 100000, 0), 0);
        due("s 999", x.even(0, 999, 999999, 0), 0);
    }

    private static void evenAlone() {
        sentence("T2: Without a FLOOR none, also behind an EVEN that took");
        String[] stones = {"1+9+1;1-9-1/0,0,100,10", "1+0+0/0,0,0,0"};
        TurnsOneWay fresh = of(stones), x = of(stones);
        fresh.frame(0, 10);
        fresh.frame(3, 78);
        x.frame(0, 10);
        x.frame(3, 78);
        // s 10, p 200, q 990 is 78 in three TICKS
        x.even(0, 10, 200990, 99);
        due("roll", x.roll(9, 10, 200990, 3), 78);
        x.even(0, 10, 200990, 99);
        due("soonest", x.soonest(9, 10, 200990, 1), 1);
        x.even(0, 10, 200990, 99);
        due("seen", x.seen(9, 10, 200990), 1);
        x.even(0, 10, 200990, 99);
        due("pressed", x.pressed(9, 100), fresh.pressed(9, 100));
        x.even(0, 10, 200990, 99);
        due("hands", x.hands(9, 7, 20), fresh.hands(9, 7, 20));
        x.even(0, 10, 200990, 99);
        due("off", x.off(9, 200990, 2), 0);
        x.even(0, 10, 200990, 99);
        due("and EVEN by c 0", x.even(0, 10, 200990, 0), 2);
    }

    private static void soonest() {
        String never = "1+0+0/0,0,100,0", second = "1+9+1;1-9-1/0,0,50,0", first = "1+9+1;1-9-1/0,0,100,0";
        sentence("T3: SOONEST: that which first TURNS BACK at the least TICK");
        TurnsOneWay x = of(never, second, first);
        due("the stone", x.soonest(9, 50, 100000, 0), 2);
        due("the TICK", x.soonest(9, 50, 100000, 1), 1);
        x = of(first, second, never);
        due("the first stone", x.soonest(9, 50, 100000, 0), 0);
        x = of(never, never, never, never, second, first);
        due("the last of six", x.soonest(9, 50, 100000, 0), 5);
        due("its TICK", x.soonest(9, 50, 100000, 1), 1);
        sentence("T3: SOONEST: (of like ones the first)");
        x = of(never, second, second, second);
        due("the stone", x.soonest(9, 50, 100000, 0), 1);
        due("the TICK", x.soonest(9, 50, 100000, 1), 2);
        sentence("T3: SOONEST: NOT: none does");
        for (int what = 0; what <= 1; what++) {
            due("no stones", of().soonest(9, 50, 100000, what), NOT);
            due("one that never does", of(never).soonest(9, 50, 100000, what), NOT);
            due("from the other side", of(first, second).soonest(9, -50, 100000, what), NOT);
        }
        sentence("T3: SOONEST: the first time counts, not how often, nor the last");
        // the first stone turns back at 2 and 7
        x = of("1+9+1;1-9-1/0,0,50,10", first);
        x.roll(9, 50, 100100, 400);
        due("how often", x.back(-1), 2);
        due("the stone", x.soonest(9, 50, 100100, 0), 1);
        due("the TICK", x.soonest(9, 50, 100100, 1), 1);
        x = of("1+9+1;1-9-1/0,0,50,10", never);
        due("the TICK of two", x.soonest(9, 50, 100100, 1), 2);
    }

    private static void soonestLate() {
        sentence("T3: TICKS are 400: SOONEST");
        TurnsOneWay x = of("1+0+0/0,0,0,0", LATE);
        due("at 400: the stone", x.soonest(9, AT_400[0], AT_400[1], 0), 1);
        due("at 400: the TICK", x.soonest(9, AT_400[0], AT_400[1], 1), 400);
        due("at 401: the stone", x.soonest(9, AT_401[0], AT_401[1], 0), NOT);
        due("at 401: the TICK", x.soonest(9, AT_401[0], AT_401[1], 1), NOT);
    }

    private static void soonestGrounds() {
        String never = "1+0+0/0,0,100,0", first = "1+9+1;1-9-1/0,0,100,0";
        sentence("P14: each STONE 0 .. 5 on each FLOOR 0 .. 3");
        for (int stone = 0; stone < 6; stone++) {
            for (int open = 0; open < 4; open++) {
                TurnsOneWay x = new TurnsOneWay();
                for (int i = 0; i < 6; i++) Check.stone(x, i == stone ? first : never);
                for (int i = 0; i < 4; i++) Check.floor(x, i == open ? "0" : "w=0?v");
                for (int floor = 0; floor < 4; floor++) {
                    due("stone " + stone + " on " + floor, x.soonest(floor, 50, 100000, 0), floor == open ? stone : NOT);
                }
                due("stone " + stone + " on none", x.soonest(9, 50, 100000, 0), stone);
            }
        }
    }

    private static void soonestArguments() {
        sentence("P14: floor 9: none");
        TurnsOneWay x = of("1+9+1;1-9-1/0,0,50,0");
        for (int floor = 0; floor <= 8; floor++) due("floor " + floor + " of none", x.soonest(floor, 1, 100000, 0), -1);
        due("no floor", x.soonest(9, 1, 100000, 0), 0);
        for (int i = 0; i < 4; i++) Check.floor(x, i == 3 ? "0" : "v");
        for (int floor = 0; floor <= 3; floor++) due("floor " + floor, x.soonest(floor, 1, 100000, 0), floor == 3 ? 0 : NOT);
        for (int floor : new int[] {4, 8, 10, 19, -1, LEAST, MOST}) due("floor " + floor, x.soonest(floor, 1, 100000, 0), -1);
        sentence("P14: what 0, 1; BAD");
        for (int what : new int[] {-1, 2, LEAST, MOST}) due("what " + what, x.soonest(9, 1, 100000, what), -1);
        for (int s : new int[] {-1000, 1000, LEAST, MOST}) due("s " + s, x.soonest(9, s, 100000, 0), -1);
        for (int pq : new int[] {-1, 1000000, LEAST, MOST}) due("pq " + pq, x.soonest(9, 1, pq, 0), -1);
        sentence("P14: BAD ahead of NOT");
        due("without stones", of().soonest(9, 1000, 0, 0), -1);
        due("without stones or floors", of().soonest(0, 1, 0, 0), -1);
        due("what, without stones", of().soonest(9, 1, 0, 2), -1);
    }

    private static String signed(int v) { return v < 0 ? "" + v : "+" + v; }

    /** The first place at which two LUMPS that are really there make KEEN v or more. */
    private static int placeOfLumps(int[] keens, int v) {
        for (int place = 0; place < 361; place++) {
            if (keens[place] >= v) return 100 * (place / 19) + place % 19;
        }
        return NOT;
    }

    private static void screwsAsLumps() {
        sentence("T3: SCREWS: two weights m (1 .. 9) at x, y and at -x, -y");
        String[] stones = {"7-9+2;6+5-8", "9-7+5;3+2-8", "3-5+7;9+4-7", "8-6+8", "8+9-7", "9+0+9;9+0-9;9+1+9;2+0-9", "1+0+0"};
        for (String lumps : stones) {
            TurnsOneWay x = of(lumps + "/0,0,0,0");
            for (int m : new int[] {1, 2, 3, 9}) {
                int[] keens = new int[361];
                for (int place = 0; place < 361; place++) {
                    int a = place / 19 - 9, b = place % 19 - 9;
                    String screws = ";" + m + signed(a) + signed(b) + ";" + m + signed(-a) + signed(-b);
                    keens[place] = of(lumps + screws + "/0,0,0,0").of(0, 5);
                }
                for (int v = -9; v <= 9; v++) due(lumps + " by " + m + ", " + v, x.screws(0, m, v), placeOfLumps(keens, v));
            }
        }
    }

    private static void screws() {
        // wherever any place will do, the first does: of all it leans the most
        sentence("T3: SCREWS: the least x (-9 on), then the least y (-9 on)");
        TurnsOneWay x = of("9+9-9;9-9+9/0,0,0,0", "1+0+0/0,0,0,0", "1+1-2;1-1+2/0,0,0,0");
        due("x -9, y -9", x.screws(1, 1, 9), 0);
        due("by the least v", x.screws(0, 1, -9), 0);
        due("by m 9 even", x.screws(0, 9, 0), 0);
        due("of the other slant", x.screws(2, 1, 9), 0);
        sentence("T3: SCREWS: KEEN is v or more; NOT");
        // two weights 9 against two of 9 at the other slant: KEEN 0, and no more
        due("0", x.screws(0, 9, 0), 0);
        due("1", x.screws(0, 9, 1), NOT);
        due("by m 8 below 0", x.screws(0, 8, 0), NOT);
        due("by m 1 -9", x.screws(0, 1, -9), 0);
        due("by m 1 -8", x.screws(0, 1, -8), NOT);
        sentence("T3: SCREWS: (LUMPS beyond 12 do not matter here)");
        StringBuilder twelve = new StringBuilder("9+0+9");
        for (int i = 1; i < 12; i++) twelve.append(i % 2 == 0 ? ";9+0+9" : ";9+0-9");
        Check.stone(x, twelve + "/0,0,0,0");
        // XX 0, YY 108 * 8748: KEEN 1 from m 4 on
        due("m 3", x.screws(3, 3, 1), NOT);
        due("m 4", x.screws(3, 4, 1), 0);
        due("LUMPS", x.of(3, 0), 12);
        sentence("P15: m (1 .. 9), v (-9 .. 9); BAD ahead of NOT");
        for (int m : new int[] {0, 10, -1, LEAST, MOST}) due("m " + m, x.screws(0, m, 9), -1);
        for (int v : new int[] {-10, 10, LEAST, MOST}) due("v " + v, x.screws(0, 1, v), -1);
        for (int stone : new int[] {-1, 4, 6, LEAST, MOST}) due("stone " + stone, x.screws(stone, 1, 9), -1);
        due("m 1, v 9", x.screws(0, 1, 9), NOT);
        due("m 9, v 9", x.screws(1, 9, 9), 0);
        due("m 9, v -9", x.screws(1, 9, -9), 0);
    }

    private static void lightest() {
        sentence("T3: LIGHTEST: the least m with which there is such a place; NOT");
        String[] stones = {"9+9-9;9-9+9/0,0,0,0", "1+0+0/0,0,0,0", "8+9-9;8-9+9/0,0,0,0"};
        TurnsOneWay x = of(stones);
        due("the least, 1", x.lightest(1, 9), 1);
        due("the most, 9", x.lightest(0, 0), 9);
        due("8 of two 8", x.lightest(2, 0), 8);
        due("9 of two 8, above 0", x.lightest(2, 1), 9);
        due("none", x.lightest(0, 1), NOT);
        due("by -9 the least", x.lightest(0, -9), 1);
        for (String stone : stones) {
            x = of(stone);
            for (int v = -9; v <= 9; v++) {
                int least = NOT;
                for (int m = 9; m >= 1; m--) least = x.screws(0, m, v) >= 0 ? m : least;
                due("of " + stone + " by " + v, x.lightest(0, v), least);
            }
        }
        sentence("P16: v (-9 .. 9); BAD");
        x = of("9+9-9;9-9+9/0,0,0,0");
        for (int v : new int[] {-10, 10, LEAST, MOST}) due("v " + v, x.lightest(0, v), -1);
        for (int stone : new int[] {-1, 1, 6, LEAST, MOST}) due("stone " + stone, x.lightest(stone, 0), -1);
        due("v 9", x.lightest(0, 9), NOT);
    }

    private static void seen() {
        sentence("T3: SEEN: the least k of 1 .. 9; NOT");
        // s 999 gives p so many by k, and p pushes: 2 by k 9 with p 53, and by k 10 with p 52
        TurnsOneWay x = of("1+0+0/999,0,100,0", "1+1-2;1-1+2/999,0,100,0");
        due("k 1", x.seen(9, 1, 100000), 1);
        due("k 9", x.seen(9, 999, 53000), 9);
        due("k 10 would be", x.seen(9, 999, 52000), NOT);
        due("none", x.seen(9, -999, 100000), NOT);
        due("from 0", x.seen(9, 0, 999999), NOT);
        sentence("T3: SEEN: taken as KEEN, whatever that of the STONE is");
        due("of KEEN -9: k 1", x.seen(19, 1, 100000), 1);
        due("of KEEN -9: k 9", x.seen(19, 999, 53000), 9);
        sentence("P17: BAD");
        for (int sf : new int[] {-1, 0, 8, 29, 90, LEAST, MOST}) due("sf " + sf, x.seen(sf, 1, 100000), -1);
        for (int s : new int[] {-1000, 1000, LEAST, MOST}) due("s " + s, x.seen(9, s, 100000), -1);
        for (int pq : new int[] {-1, 1000000, LEAST, MOST}) due("pq " + pq, x.seen(9, 1, pq), -1);
        due("s 999, pq 999999", x.seen(9, 999, 999999), 1);
    }

    private static void seenLate() {
        sentence("T3: TICKS are 400: SEEN");
        TurnsOneWay x = of("1+0+0/13,0,1,1");
        due("k 3 at 400", x.seen(9, AT_400[0], AT_400[1]), 3);
        due("k 3 at 401, k 4 ahead of 400", x.seen(9, AT_401[0], AT_401[1]), 4);
    }

    private static void pressed() {
        sentence("T3: PRESSED: from s 0 and p, q: TURNED in all; TICKS are 400");
        TurnsOneWay x = of("1+9+1;1-9-1/0,0,100,50", "1+0+0/0,0,100,50", "1+1-2;1-1+2/0,0,100,50");
        due("p alone", x.pressed(9, 100000), -100 * 400);
        due("q, of which 1 goes and no more", x.pressed(9, 2), 400);
        due("of the other slant", x.pressed(29, 100000), 100 * 400);
        due("nothing", x.pressed(9, 0), 0);
        due("without a slant", x.pressed(19, 999999), 0);
        due("1 that is cut", x.pressed(9, 1), 0);
        due("the most", x.pressed(9, 999000), -999 * 400);
        Check.floor(x, "i=400&w=0?v");
        due("not the 400th", x.pressed(0, 100000), -100 * 399);
        sentence("P18: VOID: BAD");
        for (int sf : new int[] {-1, 1, 8, 39, 90, LEAST, MOST}) due("sf " + sf, x.pressed(sf, 0), VOID);
        for (int pq : new int[] {-1, 1000000, LEAST, MOST}) due("pq " + pq, x.pressed(9, pq), VOID);
        due("pq 999999", x.pressed(19, 999999), 0);
    }

    private static void hands() {
        sentence("T3: HANDS: n times (1 .. 20) by a SEED (an int that wraps)");
        int[] seeds = {LEAST, LEAST + 1, -1, 0, 1, 7, MOST - 1, MOST};
        for (int seed : seeds) {
            TurnsOneWay x = of("1+9+1;1-9-1/900,0,100,50", "1+1-2;1-1+2/900,999,10,90");
            Check.floor(x, "w=0?v/7");
            for (int sf : new int[] {0, 9, 10, 19}) {
                int z = seed, turning = 0;
                for (int n = 1; n <= 20; n++) {
                    z = z * 1103515245 + 12345;
                    int s = (z >>> 8) % 1001 - 500;
                    z = z * 1103515245 + 12345;
                    int p = (z >>> 8) % 50;
                    z = z * 1103515245 + 12345;
                    x.roll(sf, s, 1000 * p + (z >>> 8) % 50, 400);
                    turning += x.back(-1) > 0 ? 1 : 0;
                    due(n + " by " + seed + " on " + sf, x.hands(sf, seed, n), turning);
                }
            }
        }
        sentence("P19: BAD");
        TurnsOneWay x = of(LATE);
        for (int n : new int[] {0, 21, -1, LEAST, MOST}) due("n " + n, x.hands(9, 7, n), -1);
        for (int sf : new int[] {-1, 0, 8, 19, 90, LEAST, MOST}) due("sf " + sf, x.hands(sf, 7, 1), -1);
    }

    private static void draws() {
        // by 34725 the draws are 500, 49, 13; by 1248754 they are -500, 42, 49
        sentence("T3: HANDS: s = (z >>> 8) % 1001 less 500, then p % 50, then q % 50: the ends of the draws");
        TurnsOneWay x = of("1+9+1;1-9-1/0,0,3,5");
        // the FLOOR stops the TURN of just this START in its first TICK; then the rattles push it
        Check.floor(x, "w=0&i=1&s=499&p=48?v");
        Check.floor(x, "w=0&i=1&s=499&p=41&q=47?v");
        due("500, 49", x.hands(0, 34725, 1), 1);
        due("not so of the other", x.hands(0, 1248754, 1), 0);
        due("-500, 42, 49", x.hands(1, 1248754, 1), 1);
        due("not so of the first", x.hands(1, 34725, 1), 0);
    }

    private static void handsLate() {
        sentence("T3: TICKS are 400: HANDS");
        // s 498 feeds p for long; the FLOOR takes the rest of it, and p pushes once more in the TICK behind
        for (int stop = 399; stop <= 400; stop++) {
            TurnsOneWay x = of("1+1+1;1-1-1/50,0,3,0");
            Check.floor(x, "w=0?v*(i=" + stop + ");w=1&i<300?v-5-i/39");
            due("stopped in " + stop, x.hands(0, 467, 1), stop == 399 ? 1 : 0);
        }
    }
}
