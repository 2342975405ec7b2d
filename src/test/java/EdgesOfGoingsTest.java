/** The sentences of Terms 2 on GOINGS, and of promises 9 to 12, that name a boundary case. */
public final class EdgesOfGoingsTest {
    private static final int VOID = -2000000000, LEAST = Integer.MIN_VALUE, MOST = Integer.MAX_VALUE;
    private static final Check CHECK = new Check();

    private static void due(String what, long got, long want) { CHECK.due(what, got, want); }

    private static void sentence(String words) { CHECK.sentence(words); }

    private static void at(TurnsOneWay x, int tick, int s, int p, int q) {
        due("s at " + tick, x.going(tick, 0), s);
        due("p at " + tick, x.going(tick, 1), p);
        due("q at " + tick, x.going(tick, 2), q);
    }

    /** What one TICK without a FLOOR makes of s, p, q. */
    private static void tick(int k, String rates, int[] start, int... then) {
        TurnsOneWay x = Check.ofKeen(k, rates);
        String what = start[0] + " " + start[1] + " " + start[2] + " by " + k + ", " + rates;
        due("s of " + what, x.roll(9, start[0], 1000 * start[1] + start[2], 1), then[0]);
        due("p of " + what, x.going(1, 1), then[1]);
        due("q of " + what, x.going(1, 2), then[2]);
    }

    private static int[] from(int s, int p, int q) { return new int[] {s, p, q}; }

    /** What one TICK makes of a START that only a FRAME can tell: OFF is how far it is from s. */
    private static void filmed(String rates, int k, int turn, int pq, int s) {
        TurnsOneWay x = Check.ofKeen(0, rates);
        x.frame(0, turn);
        x.frame(1, s);
        due("from " + turn + " and " + pq + " by " + k + ", " + rates, x.off(9, pq, k), 0);
    }

    public static void main(String[] args) {
        growing();
        smallest();
        lesser();
        beyondInts();
        zeroes();
        pushing();
        pushingOrder();
        heldTurn();
        heldRattles();
        losses();
        grounds();
        starts();
        ticks();
        noGoing();
        latest();
        turningBack();
        ended();
        turned();
        lost();
        CHECK.close();
    }

    private static void growing() {
        sentence("T2: by 1000000 (cut)");
        // 999 * 143 * 7 is 999999; 500 * 1000 * 2 and 250 * 2000 * 4 are 1000000 and 2000000
        tick(7, "1,0,0,0", from(143, 999, 0), 143, 999, 0);
        tick(2, "2,0,0,0", from(500, 500, 0), 499, 501, 0);
        tick(2, "4,0,0,0", from(500, 499, 0), 499, 500, 0);
        tick(2, "4,0,0,0", from(500, 500, 0), 498, 502, 0);
        tick(7, "0,1,0,0", from(-143, 0, 999), -143, 0, 999);
        tick(2, "0,2,0,0", from(-500, 0, 500), -499, 0, 501);
        sentence("T2: If u is above 0 p by A, if below 0 q by B");
        tick(2, "2,0,0,0", from(500, 500, 500), 499, 501, 500);
        tick(2, "0,2,0,0", from(500, 500, 500), 500, 500, 500);
        tick(2, "0,2,0,0", from(-500, 500, 500), -499, 500, 501);
        tick(2, "2,0,0,0", from(-500, 500, 500), -500, 500, 500);
        tick(-2, "0,2,0,0", from(500, 500, 500), 499, 500, 501);
        tick(-2, "2,0,0,0", from(500, 500, 500), 500, 500, 500);
        tick(-2, "2,0,0,0", from(-500, 500, 500), -499, 501, 500);
        tick(-2, "0,2,0,0", from(-500, 500, 500), -500, 500, 500);
    }

    private static void smallest() {
        sentence("T2: u 1 and -1, the next to 0");
        // s 500 feeds 499 in the first TICK, and 1498 * 999 are more than 1000000 in the second
        for (int k = -1; k <= 1; k += 2) {
            for (int side = -1; side <= 1; side += 2) {
                TurnsOneWay x = Check.ofKeen(k, "999,999,0,0");
                boolean isP = k * side > 0;
                due("s", x.roll(9, 500 * side, isP ? 999000 : 999, 2), 0);
                at(x, 1, side, isP ? 1498 : 0, isP ? 0 : 1498);
                at(x, 2, 0, isP ? 1499 : 0, isP ? 0 : 1499);
            }
        }
    }

    private static void lesser() {
        sentence("T2: g = the lesser of the size of s and p times the size of u times A");
        // 999 * 20 * A: 9, 10, 19
        tick(2, "500,0,0,0", from(10, 999, 0), 1, 1008, 0);
        tick(2, "501,0,0,0", from(10, 999, 0), 0, 1009, 0);
        tick(2, "999,0,0,0", from(10, 999, 0), 0, 1009, 0);
        tick(2, "0,500,0,0", from(-10, 0, 999), -1, 0, 1008);
        tick(2, "0,501,0,0", from(-10, 0, 999), 0, 0, 1009);
        tick(2, "0,999,0,0", from(-10, 0, 999), 0, 0, 1009);
        tick(-2, "0,999,0,0", from(10, 0, 999), 0, 0, 1009);
        tick(-2, "999,0,0,0", from(-10, 999, 0), 0, 1009, 0);
    }

    private static void beyondInts() {
        sentence("T2: p times the size of u times A, beyond an int");
        tick(9, "999,0,0,0", from(999, 999, 0), 0, 1998, 0);
        tick(9, "0,999,0,0", from(-999, 0, 999), 0, 0, 1998);
        tick(3, "999,0,0,0", from(999, 999, 0), 0, 1998, 0);
        // 999 * 9999 * 999 is 9979 millions: 20 of the TURN are left. Then C takes a hundredth of 9999
        filmed("999,0,0,0", 1, 9999, 999000, 20);
        filmed("0,999,0,0", 1, -9999, 999, -20);
        filmed("0,999,0,0", -1, 9999, 999, 20);
        // as far as the sizes go: all of the TURN
        filmed("999,0,0,0", 9, 9999, 999000, 0);
    }

    private static void zeroes() {
        sentence("T2: u is 0: no RATTLE grows");
        tick(9, "999,999,0,0", from(0, 999, 999), 0, 999, 999);
        tick(0, "999,999,0,0", from(999, 999, 999), 999, 999, 999);
        tick(0, "999,999,0,0", from(-999, 999, 999), -999, 999, 999);
        sentence("T2: nothing grows of a RATTLE, or by an A, that is 0");
        tick(9, "999,999,0,0", from(999, 0, 999), 999, 0, 999);
        tick(9, "0,0,0,0", from(999, 999, 999), 999, 999, 999);
        sentence("T2: If k is not 0: nothing goes from p, q with k 0");
        tick(0, "0,0,100,100", from(5, 999, 998), 5, 999, 998);
        tick(1, "0,0,100,100", from(5, 999, 998), 4, 0, 0);
        tick(-1, "0,0,100,100", from(5, 999, 998), 6, 0, 0);
    }

    private static void pushing() {
        sentence("T2: p C / 100, q D / 100 (cut)");
        tick(2, "0,0,1,0", from(0, 99, 0), 0, 99, 0);
        tick(2, "0,0,1,0", from(0, 100, 0), -1, 99, 0);
        tick(2, "0,0,1,0", from(0, 199, 0), -1, 198, 0);
        tick(2, "0,0,1,0", from(0, 200, 0), -2, 198, 0);
        tick(2, "0,0,99,0", from(0, 1, 0), 0, 1, 0);
        tick(2, "0,0,100,0", from(0, 1, 0), -1, 0, 0);
        tick(2, "0,0,99,0", from(0, 999, 0), -989, 10, 0);
        tick(2, "0,0,0,1", from(0, 0, 99), 0, 0, 99);
        tick(2, "0,0,0,1", from(0, 0, 100), 1, 0, 99);
        tick(2, "0,0,0,99", from(0, 0, 1), 0, 0, 1);
        tick(2, "0,0,0,100", from(0, 0, 1), 1, 0, 0);
        sentence("T2: C, D 0 and 100: nothing, and all");
        tick(2, "0,0,0,0", from(7, 999, 999), 7, 999, 999);
        tick(2, "0,0,100,0", from(7, 999, 999), -992, 0, 999);
        tick(2, "0,0,0,100", from(7, 999, 999), 1006, 999, 0);
        sentence("T2: s is less by so much, if k is above 0, else more; of q the other way");
        tick(9, "0,0,100,0", from(0, 30, 0), -30, 0, 0);
        tick(-9, "0,0,100,0", from(0, 30, 0), 30, 0, 0);
        tick(9, "0,0,0,100", from(0, 0, 30), 30, 0, 0);
        tick(-9, "0,0,0,100", from(0, 0, 30), -30, 0, 0);
    }

    private static void pushingOrder() {
        sentence("T2: Each TICK in this order: what p has got in this TICK pushes in it");
        tick(2, "2,0,100,0", from(500, 500, 0), -2, 0, 0);
        tick(2, "0,2,0,100", from(-500, 0, 500), 2, 0, 0);
        sentence("T2: then LOSSES, of what is left");
        TurnsOneWay x = Check.ofKeen(2, "2,0,100,0");
        Check.floor(x, "s=2&p=0?v");
        due("all of the 2 that are left", x.roll(0, 500, 500000, 1), 0);
        due("LOST", x.told(2), 2);
    }

    private static void heldTurn() {
        sentence("T2: TURN s (held within -9999 .. 9999)");
        filmed("0,0,100,0", 1, -9000, 999000, -9999);
        filmed("0,0,100,0", 1, -9001, 999000, -9999);
        filmed("0,0,100,0", 1, -9999, 999000, -9999);
        filmed("0,0,100,0", 1, -8999, 999000, -9998);
        filmed("0,0,100,0", -1, 9000, 999000, 9999);
        filmed("0,0,100,0", -1, 9001, 999000, 9999);
        filmed("0,0,100,0", -1, 8999, 999000, 9998);
        filmed("0,0,0,100", 1, 9001, 999, 9999);
        filmed("0,0,0,100", 1, 9000, 999, 9999);
        filmed("0,0,0,100", -1, -9001, 999, -9999);
        sentence("T2: held, too, ahead of what q does");
        filmed("0,0,100,100", 1, -9990, 999999, -9000);
        filmed("0,0,100,100", -1, 9990, 999999, 9000);
        sentence("T2: by a FLOOR s is nearer to 0, and not beyond");
        TurnsOneWay x = Check.ofKeen(0, "0,0,0,0");
        Check.floor(x, "9999");
        x.frame(0, 9999);
        x.frame(1, 0);
        due("from 9999", x.off(0, 0, 0), 0);
        x.cut();
        x.frame(0, -9999);
        x.frame(1, 0);
        due("from -9999", x.off(0, 0, 0), 0);
    }

    private static void heldRattles() {
        sentence("T2: RATTLES p, q (held within 0 .. 9999)");
        // 9999, and 10000 of which 1 is not held: C takes a hundredth, 99
        filmed("999,0,1,0", 9, 9000, 999000, -99);
        filmed("999,0,1,0", 9, 9001, 999000, -99);
        filmed("999,0,1,0", 9, 9999, 999000, -99);
        filmed("999,0,50,0", 9, 9999, 999000, -4999);
        filmed("0,999,0,1", 9, -9000, 999, 99);
        filmed("0,999,0,1", 9, -9001, 999, 99);
        filmed("0,999,0,50", 9, -9999, 999, 4999);
        sentence("T2: s is nearer to 0 by all of g, also when p is held");
        filmed("999,0,0,0", 9, 9999, 999000, 0);
        sentence("T2: p, q do not go below 0");
        TurnsOneWay x = Check.ofKeen(2, "0,0,100,100");
        Check.floor(x, "9999");
        x.roll(0, 0, 5005, 2);
        at(x, 1, 0, 0, 0);
        at(x, 2, 0, 0, 0);
    }

    private static void losses() {
        sentence("T2: LOSSES, all by what s, p, q are as they begin");
        TurnsOneWay x = Check.ofKeen(0, "0,0,0,0");
        Check.floor(x, "w=0?s/2;s");
        x.roll(0, -100, 300300, 1);
        at(x, 1, -50, 200, 200);
        Check.floor(x, "w=1?v;w=2?p;0");
        x.roll(1, 5, 9099, 1);
        at(x, 1, 5, 0, 90);
        Check.floor(x, "w=2?v;w=0?q;0");
        x.roll(2, 50, 9009, 1);
        at(x, 1, 41, 9, 0);
        sentence("T2: s nearer to 0 by what the FLOOR takes of it");
        x = Check.ofKeen(0, "0,0,0,0");
        Check.floor(x, "w=0?3");
        for (int s = 0; s <= 5; s++) {
            due("from " + s, x.roll(0, s, 0, 1), Math.max(0, s - 3));
            due("from " + -s, x.roll(0, -s, 0, 1), Math.min(0, 3 - s));
        }
        sentence("T2: Without a FLOOR none");
        due("s", x.roll(9, -999, 999999, 400), -999);
        at(x, 400, -999, 999, 999);
        for (int what = 2; what <= 4; what++) due("LOST " + what, x.told(what), 0);
    }

    private static void grounds() {
        sentence("sf: 10 times the STONE and the FLOOR, 9: none");
        TurnsOneWay x = new TurnsOneWay();
        for (int i = 0; i < 6; i++) Check.stone(x, "1+9+1;1-9-1/0,0,0," + (i + 1));
        for (int i = 0; i < 4; i++) Check.floor(x, "w=0?" + (i + 1));
        for (int sf = -12; sf <= 72; sf++) {
            boolean isThere = sf >= 0 && sf < 60 && (sf % 10 < 4 || sf % 10 == 9);
            // D gives 1 .. 6 to the TURN, and the FLOOR takes 1 .. 4
            int taken = sf % 10 == 9 ? 0 : sf % 10 + 1;
            due("sf " + sf, x.roll(sf, 10, 100, 1), isThere ? 10 + sf / 10 + 1 - taken : VOID);
        }
        for (int sf : new int[] {LEAST, LEAST + 8, MOST, MOST - 7, 100, 590}) due("sf " + sf, x.roll(sf, 10, 100, 1), VOID);
    }

    private static void starts() {
        sentence("pq: 1000 p and q, each 0 .. 999");
        TurnsOneWay x = Check.ofKeen(0, "0,0,0,0");
        int[][] starts = {{0, 0, 0}, {1, 0, 1}, {999, 0, 999}, {1000, 1, 0}, {1001, 1, 1}, {999000, 999, 0}, {999999, 999, 999}};
        for (int[] a : starts) {
            due("by " + a[0], x.roll(9, 0, a[0], 0), 0);
            at(x, 0, 0, a[1], a[2]);
        }
        for (int pq : new int[] {-1, -1000, 1000000, LEAST, MOST}) due("pq " + pq, x.roll(9, 0, pq, 0), VOID);
        at(x, 0, 0, 999, 999);
        sentence("s -999 .. 999");
        for (int s : new int[] {-999, -1, 0, 1, 999}) due("s " + s, x.roll(9, s, 0, 1), s);
        for (int s : new int[] {-1000, 1000, LEAST, MOST}) due("s " + s, x.roll(9, s, 0, 1), VOID);
        due("the GOING ahead stays", x.going(1, 0), 999);
        sentence("P9: n TICKS (0 .. 400)");
        for (int n : new int[] {0, 1, 399, 400}) {
            due("n " + n, x.roll(9, 7, 0, n), 7);
            due("its TICKS", x.going(-1, 0), n);
        }
        for (int n : new int[] {-1, 401, LEAST, MOST}) due("n " + n, x.roll(9, 7, 0, n), VOID);
        due("the GOING ahead stays", x.going(-1, 0), 400);
        sentence("P9: s then, of 0 TICKS that of the START");
        TurnsOneWay y = Check.ofKeen(2, "0,0,100,0");
        due("0 TICKS", y.roll(9, 9, 4000, 0), 9);
        due("1 TICK", y.roll(9, 9, 4000, 1), 5);
        due("2 TICKS", y.roll(9, 9, 4000, 2), 5);
    }

    private static void ticks() {
        sentence("T2: its TICKS 0 (the START) to n; P10: VOID: BAD");
        TurnsOneWay x = Check.ofKeen(2, "0,0,10,0");
        for (int n : new int[] {0, 1, 5, 400}) {
            x.roll(9, 0, 100000, n);
            at(x, 0, 0, 100, 0);
            if (n > 0) at(x, 1, -10, 90, 0);
            if (n > 1) at(x, 2, -19, 81, 0);
            // 9 are too few for C to take one
            if (n == 400) at(x, 400, -91, 9, 0);
            for (int what = 0; what < 3; what++) {
                due("the last of " + n, x.going(n, what) == VOID ? 1 : 0, 0);
                for (int tick : new int[] {n + 1, 401, -2, LEAST, MOST}) due("TICK " + tick + " of " + n, x.going(tick, what), VOID);
            }
            for (int what : new int[] {-1, 3, LEAST, MOST}) due("what " + what, x.going(0, what), VOID);
        }
        sentence("P10: TICK -1: how many TICKS it has (what 0)");
        due("what 0", x.going(-1, 0), 400);
        for (int what : new int[] {-1, 1, 2, 3}) due("what " + what, x.going(-1, what), VOID);
    }

    private static void noGoing() {
        sentence("T2: THE GOING (none at first); P10, P12: VOID; P11: STATE: there is none");
        TurnsOneWay x = Check.ofKeen(2, "0,0,0,0");
        for (int tick = -2; tick <= 2; tick++) due("going " + tick, x.going(tick, 0), VOID);
        for (int what = -1; what <= 5; what++) due("told " + what, x.told(what), VOID);
        for (int i : new int[] {-1, 0, 1, MOST}) due("back " + i, x.back(i), -5);
        sentence("P11: BAD ahead of STATE");
        for (int i : new int[] {-2, LEAST}) due("back " + i, x.back(i), -1);
        sentence("T2: a roll() that is refused makes none");
        due("roll", x.roll(9, 1000, 0, 0), VOID);
        due("back", x.back(-1), -5);
        due("going", x.going(-1, 0), VOID);
    }

    private static void latest() {
        sentence("T2: THE GOING kept is that of the latest roll()");
        TurnsOneWay x = Check.ofKeen(2, "0,0,100,50");
        Check.floor(x, "1");
        x.roll(9, 10, 100100, 400);
        due("turns back", x.back(-1), 2);
        x.roll(0, 5, 0, 2);
        due("TICKS", x.going(-1, 0), 2);
        at(x, 2, 3, 0, 0);
        due("none of the longer one ahead", x.going(3, 0), VOID);
        due("it does not turn back", x.back(-1), 0);
        due("nor at a TICK", x.back(0), -1);
        due("not ENDED", x.told(0), -2);
        due("TURNED", x.told(1), 7);
        due("LOST", x.told(2), 2);
        sentence("T2: it stays as it was when its STONE becomes another, or a text comes");
        x.set(0, 8, 0);
        x.set(0, 10, 9);
        Check.stone(x, "1+1+1/1,1,1,1");
        Check.floor(x, "v");
        x.undo();
        due("TICKS", x.going(-1, 0), 2);
        at(x, 2, 3, 0, 0);
        due("TURNED", x.told(1), 7);
    }

    /** At which TICKS it TURNS BACK. */
    private static void backs(String what, TurnsOneWay x, int... ticks) {
        due("how often " + what, x.back(-1), ticks.length);
        for (int i = 0; i < ticks.length; i++) due("time " + i + " " + what, x.back(i), ticks[i]);
        for (int i : new int[] {ticks.length, ticks.length + 1, 400, MOST}) due("none such " + what, x.back(i), -1);
    }

    private static void turningBack() {
        TurnsOneWay x = Check.ofKeen(2, "0,0,100,50");
        sentence("T2: TURNS BACK: the latest TICK ahead at which s was not 0 had the other sign");
        // q gives 50, 25, 12, 6, 3, 2, 1 back of the 100 that p takes
        x.roll(9, 10, 100100, 9);
        for (int[] a : new int[][] {{0, 10}, {1, -40}, {2, -15}, {3, -3}, {4, 3}}) due("s", x.going(a[0], 0), a[1]);
        backs("there and back", x, 1, 4);
        sentence("T2: TURNS BACK at a TICK at which s is not 0");
        x.roll(9, 13, 100100, 3);
        due("0 at last", x.going(3, 0), 0);
        backs("at 0", x, 1);
        x.roll(9, 13, 100100, 4);
        due("and beyond", x.going(4, 0), 6);
        backs("beyond 0", x, 1, 4);
        x.roll(9, 50, 100100, 9);
        due("to 0", x.going(1, 0), 0);
        due("and up again", x.going(2, 0), 25);
        backs("from 0 to the same side", x);
        sentence("T2: TURNS BACK: the START is a TICK ahead; one of s 0 has no sign");
        x.roll(9, 0, 100100, 1);
        due("from 0 to the right", x.going(1, 0), -50);
        backs("from 0", x);
        x.roll(9, 1, 100100, 1);
        backs("from the START", x, 1);
        x.roll(9, 1, 100100, 0);
        backs("at the START", x);
        x.roll(9, -999, 0, 400);
        backs("of one that stays", x);
        sentence("P11: at the last TICK, 400");
        x = new TurnsOneWay();
        Check.stone(x, "1+1+5;1-1-5/13,0,1,1");
        x.roll(9, 674, 31255, 400);
        backs("at 400", x, 400);
        x.roll(9, 674, 31255, 399);
        backs("ahead of 400", x);
        x.roll(9, 723, 23491, 400);
        backs("at 401", x);
    }

    private static void ended() {
        TurnsOneWay x = Check.ofKeen(0, "0,0,0,0");
        Check.floor(x, "1");
        sentence("T2: ENDED: the first TICK (0 on) at which s, p, q are all 0");
        int[][] dues = {{0, 0, 5, 0}, {0, 0, 0, 0}, {2, 1000, 5, 2}, {-2, 1, 5, 2}, {0, 3000, 5, 3}, {0, 3, 5, 3}, {3, 0, 3, 3}, {5, 5005, 9, 5}};
        for (int[] a : dues) {
            x.roll(0, a[0], a[1], a[2]);
            due("ENDED of " + a[0] + " " + a[1], x.told(0), a[3]);
        }
        sentence("P12: NOT: it has not ENDED");
        int[][] nots = {{3, 0, 2}, {0, 3000, 2}, {0, 3, 2}, {1, 2000, 1}, {1, 2, 1}, {-1, 0, 0}, {0, 1, 0}, {0, 1000, 0}};
        for (int[] a : nots) {
            x.roll(0, a[0], a[1], a[2]);
            due("of " + a[0] + " " + a[1] + " through " + a[2], x.told(0), -2);
        }
        sentence("T2: ENDED at the last TICK, 400");
        x.roll(0, 400, 0, 400);
        due("of 400", x.told(0), 400);
        x.roll(0, 401, 0, 400);
        due("of 401", x.told(0), -2);
        sentence("P12: what 0 .. 4; VOID: BAD");
        for (int what : new int[] {-1, 5, LEAST, MOST}) due("what " + what, x.told(what), VOID);
    }

    private static void turned() {
        TurnsOneWay x = Check.ofKeen(0, "0,0,0,0");
        sentence("T2: TURNED in all: the sum of s over TICKS 1 .. n");
        int[][] dues = {{7, 0, 0}, {7, 1, 7}, {7, 2, 14}, {-999, 400, -399600}, {999, 400, 399600}, {0, 400, 0}};
        for (int[] a : dues) {
            x.roll(9, a[0], 0, a[1]);
            due("of " + a[0] + " through " + a[1], x.told(1), a[2]);
        }
        Check.floor(x, "w=0?v");
        x.roll(0, 999, 0, 400);
        due("not the START's", x.told(1), 0);
    }

    private static void lost() {
        TurnsOneWay x = Check.ofKeen(0, "0,0,0,0");
        Check.floor(x, "w+1");
        sentence("T2: LOST: what LOSSES took in all, of s, p, q each");
        int[][] dues = {{0, 0, 0, 0}, {1, 1, 2, 3}, {2, 2, 4, 6}, {3, 3, 5, 7}, {4, 4, 5, 7}, {400, 9, 5, 7}};
        for (int[] a : dues) {
            x.roll(0, -9, 5007, a[0]);
            for (int what = 2; what <= 4; what++) due("of " + (what - 2) + " through " + a[0], x.told(what), a[what - 1]);
        }
    }
}
