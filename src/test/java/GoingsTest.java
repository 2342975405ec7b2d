/** Promises 9 to 12: goings that are kept. */
public final class GoingsTest {
    private static final int VOID = -2000000000;
    private static final Check CHECK = new Check();

    private static void due(String what, long got, long want) { CHECK.due(what, got, want); }

    private static void at(TurnsOneWay x, int tick, int s, int p, int q) {
        due("10: s at " + tick, x.going(tick, 0), s);
        due("10: p at " + tick, x.going(tick, 1), p);
        due("10: q at " + tick, x.going(tick, 2), q);
    }

    public static void main(String[] args) {
        none();
        wrong();
        growing();
        otherSlant();
        pushing();
        turningBack();
        losing();
        latest();
        CHECK.close();
    }

    private static void none() {
        TurnsOneWay x = Check.ofThree("0,0,0,0");
        due("10: none", x.going(0, 0), VOID);
        due("10: none, -1", x.going(-1, 0), VOID);
        due("11: none", x.back(-1), -5);
        due("11: none, 0", x.back(0), -5);
        due("11: BAD ahead of STATE", x.back(-2), -1);
        for (int what = -1; what <= 5; what++) due("12: none", x.told(what), VOID);
    }

    private static void wrong() {
        TurnsOneWay x = Check.ofThree("0,0,0,0");
        Check.floor(x, "1");
        int[][] bad = {{39, 0, 0, 0}, {-1, 0, 0, 0}, {-9, 0, 0, 0}, {1, 0, 0, 0}, {8, 0, 0, 0}, {600, 0, 0, 0},
            {9, 1000, 0, 0}, {9, -1000, 0, 0}, {9, 0, -1, 0}, {9, 0, 1000000, 0}, {9, 0, 0, -1}, {9, 0, 0, 401},
            {Integer.MAX_VALUE, 0, 0, 0}, {Integer.MIN_VALUE, 0, 0, 0}};
        for (int[] a : bad) due("9: " + a[0] + " " + a[1] + " " + a[2] + " " + a[3], x.roll(a[0], a[1], a[2], a[3]), VOID);
        due("9: nothing is kept of these", x.going(-1, 0), VOID);
        due("9: edges", x.roll(29, 999, 999999, 0), 999);
        at(x, 0, 999, 999, 999);
        due("9: edges below", x.roll(20, -999, 0, 400), -599);
        due("10: n", x.going(-1, 0), 400);
        due("10: -1 of p", x.going(-1, 1), VOID);
        due("10: -2", x.going(-2, 0), VOID);
        due("10: 401", x.going(401, 0), VOID);
        due("10: what 3", x.going(0, 3), VOID);
        due("10: what -1", x.going(0, -1), VOID);
        due("12: what 5", x.told(5), VOID);
        due("12: what -1", x.told(-1), VOID);
    }

    private static void growing() {
        TurnsOneWay x = Check.ofThree("500,400,10,2");
        // u 1000: 5 * 1000 * 500 / 1000000 is 2; then C pushes from the tenth on
        due("9: left", x.roll(19, 500, 5005, 3), 489);
        at(x, 0, 500, 5, 5);
        at(x, 1, 498, 7, 5);
        at(x, 2, 494, 9, 5);
        at(x, 3, 489, 12, 5);
        due("12: TURNED", x.told(1), 498 + 494 + 489);
        due("12: not ENDED", x.told(0), -2);
        due("10: a TICK too many", x.going(4, 0), VOID);
        due("9: right", x.roll(19, -500, 5005, 1), -498);
        at(x, 1, -498, 5, 7);
        // KEEN 3: 999 * 2997 * 500 / 1000000 is 1497, more than the TURN has
        x.set(2, 8, 0);
        due("9: no more than the TURN", x.roll(29, 999, 999000, 1), 0);
        at(x, 1, 0, 1998, 0);
    }

    private static void otherSlant() {
        TurnsOneWay x = new TurnsOneWay();
        Check.stone(x, "1+9-1;1-9+1/999,400,50,25");
        // KEEN -2: to the left q grows, p pushes to the left, q to the right
        due("9: left", x.roll(9, 500, 6020, 1), 500 - 8 + 3 - 7);
        at(x, 1, 488, 3, 21);
        due("9: right", x.roll(9, -500, 6020, 1), -500 + 5 + 5 - 5);
        at(x, 1, -495, 6, 15);
    }

    private static void pushing() {
        TurnsOneWay x = Check.ofThree("0,0,50,100");
        due("9: no slant, no push", x.roll(9, 7, 100100, 5), 7);
        at(x, 5, 7, 100, 100);
        due("9: p to the right", x.roll(19, 0, 101000, 1), -50);
        at(x, 1, -50, 51, 0);
        due("9: q to the left", x.roll(19, 0, 101, 1), 101);
        at(x, 1, 101, 0, 0);
        due("9: a going of no TICK", x.roll(19, -3, 1001, 0), -3);
        due("12: TURNED of none", x.told(1), 0);
        due("12: not ENDED at its START", x.told(0), -2);
        due("11: at most at START", x.back(-1), 0);
    }

    private static void turningBack() {
        TurnsOneWay x = Check.ofThree("0,0,100,10");
        // tick 1: 10 - 200 + 99, tick 2: + 89, tick 3: + 80
        due("9: twice back", x.roll(19, 10, 200990, 3), 78);
        at(x, 1, -91, 0, 891);
        at(x, 2, -2, 0, 802);
        due("11: how often", x.back(-1), 2);
        due("11: the first", x.back(0), 1);
        due("11: the second", x.back(1), 3);
        due("11: no third", x.back(2), -1);
        due("11: far", x.back(Integer.MAX_VALUE), -1);
        due("11: -2", x.back(-2), -1);
        x.set(1, 8, 50);
        // over 0: 50, 0, -25
        due("9: over 0", x.roll(19, 50, 100000, 2), -25);
        due("11: over 0", x.back(-1), 1);
        due("11: behind the 0", x.back(0), 2);
        due("9: from 0", x.roll(19, 0, 100000, 2), -75);
        due("11: from 0 is no turning back", x.back(-1), 0);
        x.set(1, 9, 100);
        x.set(1, 8, 100);
        due("9: there and back within a TICK", x.roll(19, 1, 100100, 1), 1);
        due("11: is none", x.back(-1), 0);
    }

    private static void losing() {
        TurnsOneWay x = Check.ofThree("0,0,50,0");
        Check.floor(x, "w=0?9;i>1?p/2");
        // s 0 - 50, p 50; less 9. Then p pushes 25, takes s 9, p 12. Then 6, and p 3
        due("9: losses", x.roll(10, 0, 100000, 3), -54);
        at(x, 1, -41, 50, 0);
        at(x, 2, -57, 13, 0);
        at(x, 3, -54, 4, 0);
        due("12: LOST of s", x.told(2), 27);
        due("12: LOST of p", x.told(3), 15);
        due("12: LOST of q", x.told(4), 0);
        due("12: TURNED", x.told(1), -152);
        Check.floor(x, "w=0?s/2;s");
        // all by what they are as LOSSES begin
        due("9: p by the size of s ahead of its loss", x.roll(1, -100, 300300, 1), -50);
        at(x, 1, -50, 200, 200);
        Check.floor(x, "v");
        due("9: all is taken", x.roll(22, 999, 999999, 10), 0);
        due("12: ENDED", x.told(0), 1);
        due("9: nothing at first", x.roll(29, 0, 0, 3), 0);
        due("12: ENDED at once", x.told(0), 0);
        Check.floor(x, "i=3");
        due("9: i 3 is not yet", x.roll(3, 1, 0, 2), 1);
        due("12: not ENDED", x.told(0), -2);
        due("9: to the third TICK", x.roll(3, 1, 0, 3), 0);
        due("12: ENDED at its last TICK", x.told(0), 3);
        due("9: the whole way", x.roll(9, 1, 0, 400), 1);
        due("10: the last TICK", x.going(400, 0), 1);
        due("9: in the third TICK", x.roll(3, 2, 0, 5), 1);
        at(x, 2, 2, 0, 0);
        at(x, 3, 1, 0, 0);
    }

    private static void latest() {
        TurnsOneWay x = Check.ofThree("0,0,50,0");
        x.roll(19, 50, 100000, 9);
        x.roll(9, 5, 0, 2);
        due("10: the latest", x.going(-1, 0), 2);
        due("11: the latest", x.back(-1), 0);
        x.roll(9, 1000, 0, 0);
        x.even(1, 50, 100000, 0);
        x.seen(9, 50, 100000);
        x.pressed(19, 100000);
        x.hands(19, 1, 20);
        x.soonest(9, 50, 100000, 0);
        x.frame(0, 9);
        x.off(19, 0, 1);
        x.set(0, 6, 4);
        due("10: thoughts leave it", x.going(-1, 0), 2);
        due("10: so", x.going(2, 0), 5);
        due("12: so", x.told(1), 10);
        due("11: so", x.back(-1), 0);
    }
}
