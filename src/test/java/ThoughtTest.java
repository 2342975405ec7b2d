/** Promises 13 to 19: what is worked out in thought. */
public final class ThoughtTest {
    private static final int VOID = -2000000000;
    private static final Check CHECK = new Check();

    private static void due(String what, long got, long want) { CHECK.due(what, got, want); }

    public static void main(String[] args) {
        even();
        soonest();
        screws();
        seen();
        pressed();
        hands();
        CHECK.close();
    }

    private static void even() {
        TurnsOneWay x = Check.ofThree("0,0,50,0");
        // s 1 - 50: -49, of which c in a hundred goes: 48 by 97, 49 by 98
        due("13: c 0", x.even(1, 1, 100000, 0), 1);
        due("13: c 50", x.even(1, 1, 100000, 50), 1);
        due("13: c 97", x.even(1, 1, 100000, 97), 1);
        due("13: c 98", x.even(1, 1, 100000, 98), 0);
        due("13: c 99", x.even(1, 1, 100000, 99), 0);
        due("13: the smallest is taken up", x.even(1, 1, 4000, 1), 0);
        due("13: and not by 0", x.even(1, 1, 4000, 0), 1);
        due("13: no slant", x.even(0, 1, 100000, 0), 0);
        int[][] bad = {{3, 0, 0, 0}, {-1, 0, 0, 0}, {0, 1000, 0, 0}, {0, -1000, 0, 0}, {0, 0, 1000000, 0},
            {0, 0, -1, 0}, {0, 0, 0, 100}, {0, 0, 0, -1}};
        for (int[] a : bad) due("13: BAD", x.even(a[0], a[1], a[2], a[3]), -1);
        x.set(1, 8, 100);
        x.set(1, 9, 10);
        due("13: twice", x.even(1, 10, 200990, 0), 2);
        Check.floor(x, "v");
        due("13: the floor of the roll ahead is none of it", x.roll(10, 10, 0, 1) + x.even(1, 10, 200990, 0), 2);
        due("9: nor is even's a roll's", x.roll(19, 10, 200990, 3), 78);
    }

    private static void soonest() {
        TurnsOneWay none = new TurnsOneWay();
        due("14: no stones", none.soonest(9, 1, 1, 0), -2);
        TurnsOneWay x = Check.ofThree("0,0,50,0");
        due("14: of like ones the first", x.soonest(9, 50, 100000, 0), 1);
        due("14: the TICK", x.soonest(9, 50, 100000, 1), 2);
        x.set(2, 8, 100);
        due("14: the sooner", x.soonest(9, 50, 100000, 0), 2);
        due("14: its TICK", x.soonest(9, 50, 100000, 1), 1);
        Check.stone(x, "1+9+1;1-9-1/0,0,1,0");
        x.set(1, 8, 0);
        x.set(2, 8, 0);
        due("14: the last", x.soonest(9, 1, 200000, 0), 3);
        TurnsOneWay first = new TurnsOneWay();
        Check.stone(first, "1+9+1;1-9-1/0,0,1,0");
        due("14: the first", first.soonest(9, 1, 200000, 0), 0);
        due("14: its TICK", first.soonest(9, 1, 200000, 1), 1);
        due("14: none does", x.soonest(9, -50, 100000, 0), -2);
        due("14: none, of TICK", x.soonest(9, -50, 100000, 1), -2);
        due("14: no floor 0", x.soonest(0, 50, 100000, 0), -1);
        Check.floor(x, "v");
        due("14: on a floor that takes all", x.soonest(0, 50, 100000, 0), -2);
        int[][] bad = {{1, 0, 0, 0}, {8, 0, 0, 0}, {10, 0, 0, 0}, {-1, 0, 0, 0}, {9, 1000, 0, 0}, {9, -1000, 0, 0},
            {9, 0, -1, 0}, {9, 0, 1000000, 0}, {9, 0, 0, 2}, {9, 0, 0, -1}};
        for (int[] a : bad) due("14: BAD", x.soonest(a[0], a[1], a[2], a[3]), -1);
    }

    private static void screws() {
        TurnsOneWay x = Check.ofThree("0,0,0,0");
        // the screws of STONE 3 stand at the other slant: of weight 9 they make it even
        Check.stone(x, "9+9-9;9-9+9/0,0,0,0");
        due("15: the first place", x.screws(0, 1, 9), 0);
        due("15: even", x.screws(3, 9, 0), 0);
        due("15: not above", x.screws(3, 9, 1), -2);
        due("15: by -9 the first place", x.screws(3, 1, -9), 0);
        due("15: by -8 none", x.screws(3, 1, -8), -2);
        due("16: the lightest", x.lightest(3, 0), 9);
        due("16: by -9", x.lightest(3, -9), 1);
        due("16: none", x.lightest(3, 1), -2);
        due("16: even KEEN", x.lightest(0, 9), 1);
        // XX 0, YY 108 * 8748: KEEN 18 * 162 m / 8748, cut, so 1 from m 4 on (and the 1 beside)
        Check.stone(x, "9+0+9;9+0-9;9+0+9;9+0-9;9+0+9;9+0-9;9+0+9;9+0-9;9+0+9;9+0-9;9+0+9;9+0-9/0,0,0,0");
        due("16: beyond 12 LUMPS", x.lightest(4, 1), 4);
        due("15: with 3 none", x.screws(4, 3, 1), -2);
        due("15: with 4", x.screws(4, 4, 1), 0);
        due("15: the stone stays", x.of(4, 0), 12);
        due("15: KEEN stays", x.of(4, 5), 0);
        int[][] bad = {{5, 1, 1}, {-1, 1, 1}, {0, 0, 1}, {0, 10, 1}, {0, 1, 10}, {0, 1, -10}};
        for (int[] a : bad) due("15: BAD", x.screws(a[0], a[1], a[2]), -1);
        due("16: stone", x.lightest(5, 1), -1);
        due("16: stone -1", x.lightest(-1, 1), -1);
        due("16: v 10", x.lightest(0, 10), -1);
        due("16: v -10", x.lightest(0, -10), -1);
    }

    private static void seen() {
        TurnsOneWay x = Check.ofThree("999,0,100,0");
        // by k the TURN feeds p by 99 k (and a little): p pushes back when it has the more, from 5 on
        due("17: the least k", x.seen(9, 999, 100000), 5);
        due("17: whatever the stone's own", x.seen(29, 999, 100000), 5);
        due("17: to the right", x.seen(9, -999, 100000), -2);
        // by 9: 999 less 494, less 494 and 55; by 8: 999 less 439, less 439 and 55
        due("17: k 9", x.seen(9, 999, 55000), 9);
        Check.floor(x, "v");
        due("17: on a floor", x.seen(0, 999, 100000), -2);
        due("17: k 1", x.seen(9, 1, 100000), 1);
        int[][] bad = {{39, 0, 0}, {8, 0, 0}, {-1, 0, 0}, {9, 1000, 0}, {9, -1000, 0}, {9, 0, -1}, {9, 0, 1000000}};
        for (int[] a : bad) due("17: BAD", x.seen(a[0], a[1], a[2]), -1);
    }

    private static void pressed() {
        TurnsOneWay x = Check.ofThree("0,0,100,50");
        due("18: to the right", x.pressed(19, 100000), -40000);
        due("18: without a slant", x.pressed(9, 100000), 0);
        due("18: q, of which 1 goes and no more", x.pressed(19, 2), 400);
        Check.floor(x, "w=0?9");
        // -91, -82 .. -1
        due("18: on a floor", x.pressed(10, 100000), -506);
        due("18: stone 3", x.pressed(39, 0), VOID);
        due("18: floor 1", x.pressed(11, 0), VOID);
        due("18: pq", x.pressed(9, 1000000), VOID);
        due("18: pq -1", x.pressed(9, -1), VOID);
        due("18: sf -1", x.pressed(-1, 0), VOID);
    }

    private static void hands() {
        TurnsOneWay x = Check.ofThree("900,0,100,50");
        Check.floor(x, "w=0?v/7");
        for (int seed : new int[] {0, 7, -1, Integer.MIN_VALUE, Integer.MAX_VALUE, 20261118}) {
            int z = seed;
            int turning = 0;
            for (int n = 1; n <= 20; n++) {
                z = z * 1103515245 + 12345;
                int s = (z >>> 8) % 1001 - 500;
                z = z * 1103515245 + 12345;
                int p = (z >>> 8) % 50;
                z = z * 1103515245 + 12345;
                int q = (z >>> 8) % 50;
                x.roll(20, s, 1000 * p + q, 400);
                turning += x.back(-1) > 0 ? 1 : 0;
                due("19: " + n + " by " + seed, n % 7 == 6 || n == 1 ? x.hands(20, seed, n) : turning, turning);
            }
        }
        due("19: n 0", x.hands(20, 1, 0), -1);
        due("19: n 21", x.hands(20, 1, 21), -1);
        due("19: stone", x.hands(30, 1, 1), -1);
        due("19: floor", x.hands(21, 1, 1), -1);
        due("19: sf -1", x.hands(-1, 1, 1), -1);
    }
}
