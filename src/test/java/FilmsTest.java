/** Promises 20 to 27: films, and found stones. */
public final class FilmsTest {
    private static final int VOID = -2000000000;
    private static final Check CHECK = new Check();

    private static void due(String what, long got, long want) { CHECK.due(what, got, want); }

    public static void main(String[] args) {
        frames();
        framesFromRow();
        off();
        held();
        shape();
        which();
        wrong();
        chance();
        CHECK.close();
    }

    private static void frames() {
        TurnsOneWay x = new TurnsOneWay();
        int[][] bad = {{-1, 0}, {401, 0}, {0, 10000}, {0, -10000}, {Integer.MIN_VALUE, 0}, {0, Integer.MIN_VALUE}};
        for (int[] a : bad) due("20: BAD", x.frame(a[0], a[1]), -1);
        due("20: the first", x.frame(0, 9999), 0);
        due("20: as late", x.frame(0, 0), -1);
        due("20: the second", x.frame(3, -9999), 1);
        due("20: ahead", x.frame(2, 0), -1);
        due("39: frames", x.count(2), 2);
        due("22: had", x.cut(), 2);
        due("22: has none", x.cut(), 0);
        due("20: from 0 again", x.frame(0, 0), 0);
        for (int i = 1; i < 40; i++) due("20: more", x.frame(i, 0), i);
        due("20: FULL", x.frame(40, 0), -3);
        due("20: BAD ahead of FULL", x.frame(39, 0), -1);
        due("20: the last TICK", x.frame(400, 0), -3);
        due("22: had 40", x.cut(), 40);
        due("20: 400", x.frame(400, 0), 0);
    }

    private static void row(TurnsOneWay x, int shelf, int... values) {
        x.row(shelf, 1, values.length);
        for (int i = 0; i < values.length; i++) x.put(shelf, i, values[i]);
    }

    private static void framesFromRow() {
        TurnsOneWay x = Check.ofThree("0,0,0,0");
        row(x, 2, 7, 1, 70, 2, 71, -3, 400, 9999, 401);
        due("21: from 1 on", x.frames(2, 1, 2), 2);
        // (1, 70) and (2, 71); KEEN 0, no floor: 70 stays
        due("21: they are", x.off(9, 0, 0), 1);
        due("21: not rising", x.frames(2, 3, 1), 0);
        due("21: by twos from 2 on", x.frames(2, 2, 5), 3);
        due("39: frames", x.count(2), 5);
        x.cut();
        due("21: it ends within a two", x.frames(2, 7, 5), 0);
        due("21: it ends", x.frames(2, 0, 30), 4);
        due("39: not the half one", x.count(2), 4);
        x.cut();
        due("21: at its end", x.frames(2, 9, 1), 0);
        due("21: behind its end", x.frames(2, Integer.MAX_VALUE, 1), 0);
        due("21: below 0", x.frames(2, -1, 1), 0);
        due("21: far below 0", x.frames(2, Integer.MIN_VALUE, 30), 0);
        due("21: missing", x.frames(0, 0, 1), 0);
        due("21: missing, below 0", x.frames(0, -1, 1), 0);
        x.row(3, 2, 4);
        due("21: ints", x.frames(3, 0, 1), -12);
        due("21: ints, below 0", x.frames(3, -1, 1), -12);
        x.body(0);
        x.keep(4, 0);
        due("21: a BODY", x.frames(4, 0, 1), -12);
        int[][] bad = {{6, 0, 1}, {-1, 0, 1}, {2, 0, 0}, {2, 0, 31}, {3, 0, 31}};
        for (int[] a : bad) due("21: BAD", x.frames(a[0], a[1], a[2]), -1);
        row(x, 2, 5, 10000, 6, 1);
        due("21: a TURN too great", x.frames(2, 0, 2), 0);
        row(x, 2, -1, 5);
        due("21: a TICK below 0", x.frames(2, 0, 1), 0);
        row(x, 2, 0, 5, 401, 5);
        due("21: a TICK too late", x.frames(2, 0, 2), 1);
        x.row(2, 1, 0);
        due("21: a ROW of none", x.frames(2, 0, 1), 0);
        x.cut();
        for (int i = 0; i < 39; i++) x.frame(i, 0);
        row(x, 2, 50, 1, 51, 1);
        due("21: until they are FULL", x.frames(2, 0, 2), 1);
        due("21: FULL", x.frames(2, 2, 1), 0);
    }

    private static void off() {
        TurnsOneWay x = Check.ofThree("0,0,100,0");
        Check.floor(x, "w=0?50");
        x.frame(5, 100);
        due("23: the first FRAME alone", x.off(10, 999999, 9), 0);
        x.frame(6, 40);
        x.frame(8, -10);
        // 50, 0, 0
        due("23: k 0", x.off(0, 0, 0), 20);
        // 100 + 30 less 50: 80, 30, 0
        due("23: k -1, p pushes to the left", x.off(0, 30000, -1), 50);
        // 100 - 30 less 50: 20, 0, 0
        due("23: k 1", x.off(0, 30000, 1), 30);
        due("23: no floor", x.off(9, 0, 4), 170);
        Check.floor(x, "30*(i=6)");
        due("23: the START is at its TICK, the next is the sixth", x.off(1, 0, 0), 30 + 80);
    }

    private static void held() {
        TurnsOneWay x = Check.ofThree("999,0,100,100");
        x.frame(0, 9999);
        x.frame(1, -9000);
        // p 999 + 9999 is held at 9999, pushes the TURN to -9999; then q pushes it 999 back
        due("23: held", x.off(9, 999999, 9), 0);
        x.cut();
        x.frame(0, -9990);
        x.frame(1, -9000);
        // -9990 - 999 is held at -9999 ahead of what q does
        x.set(0, 7, 0);
        due("23: held at each step", x.off(9, 999999, 1), 0);
    }

    private static void shape() {
        TurnsOneWay x = Check.ofThree("0,0,100,0");
        x.frame(0, 100);
        x.frame(1, 100);
        due("24: of like ones the least", x.shape(9, 0, 0), -9);
        due("24: its OFF", x.shape(9, 0, 1), 0);
        due("25: all", x.span(9, 0, 0), 19);
        due("24: k 0", x.shape(9, 100000, 0), 0);
        due("24: OFF of k 0", x.shape(9, 100000, 1), 0);
        due("25: one", x.span(9, 100000, 0), 1);
        due("25: still one", x.span(9, 100000, 99), 1);
        due("25: as much, too", x.span(9, 100000, 100), 19);
        due("25: any", x.span(9, 100000, Integer.MAX_VALUE), 19);
        edges(Check.ofThree("999,999,100,100"));
        x.frame(2, -300);
        // k above 0: 0, 0: 100 + 300. k 0: 0 + 400. k below 0: 200, 200: 100 + 500
        due("24: of 0 and above", x.shape(9, 100000, 0), 0);
        due("24: OFF", x.shape(9, 100000, 1), 400);
        due("25: 0 to 9", x.span(9, 100000, 400), 10);
        due("25: none", x.span(9, 100000, 399), 0);
    }

    private static void edges(TurnsOneWay x) {
        x.frame(0, 999);
        x.frame(1, -44);
        due("24: k 9", x.shape(9, 55000, 0), 9);
        due("24: its OFF", x.shape(9, 55000, 1), 0);
        x.cut();
        x.frame(0, 999);
        x.frame(1, 66);
        due("24: k -8", x.shape(9, 55, 0), -8);
        due("24: its OFF", x.shape(9, 55, 1), 0);
    }

    private static void which() {
        TurnsOneWay x = Check.ofThree("0,0,100,0");
        x.frame(0, 100);
        x.frame(2, 80);
        due("26: no floors", x.which(0, 0), -5);
        Check.floor(x, "0");
        due("26: the only", x.which(0, 0), 0);
        Check.floor(x, "w=0?10");
        Check.floor(x, "w=0?10");
        due("26: of like ones the first", x.which(0, 0), 1);
        Check.floor(x, "w=0?5");
        // KEEN 2, p 10 pushes: 90 without losses, 70, 70, 80
        due("26: by its own KEEN", x.which(1, 10000), 3);
        x.cut();
        due("26: no frames", x.which(0, 0), -5);
    }

    private static void wrong() {
        TurnsOneWay x = Check.ofThree("0,0,0,0");
        Check.floor(x, "1");
        due("23: STATE", x.off(0, 0, 0), -5);
        due("24: STATE", x.shape(0, 0, 0), -5);
        due("25: STATE", x.span(0, 0, 0), -5);
        for (int frames = 0; frames < 2; frames++) {
            int[][] sfpq = {{30, 0}, {1, 0}, {8, 0}, {-1, 0}, {0, -1}, {0, 1000000}};
            for (int[] a : sfpq) {
                due("23: BAD", x.off(a[0], a[1], 0), -1);
                due("24: BAD", x.shape(a[0], a[1], 0), VOID);
                due("25: BAD", x.span(a[0], a[1], 0), -1);
            }
            due("23: k 10", x.off(0, 0, 10), -1);
            due("23: k -10", x.off(0, 0, -10), -1);
            due("24: what 2", x.shape(0, 0, 2), VOID);
            due("24: what -1", x.shape(0, 0, -1), VOID);
            due("25: bound", x.span(0, 0, -1), -1);
            due("26: stone", x.which(3, 0), -1);
            due("26: stone -1", x.which(-1, 0), -1);
            due("26: pq", x.which(0, 1000000), -1);
            x.frame(0, 0);
        }
    }

    private static void chance() {
        TurnsOneWay x = new TurnsOneWay();
        int[][] dues = {{1, 0, 1000}, {1, 1, 1000}, {2, 0, 500}, {2, 1, 1000}, {2, 2, 500}, {3, 3, 250}, {3, 2, 1000},
            {5, 5, 62}, {5, 0, 62}, {5, 1, 375}, {10, 9, 21}, {40, 20, 1000}, {40, 21, 874}, {40, 19, 874}, {40, 40, 0},
            {20, 15, 41}};
        for (int[] a : dues) due("27: " + a[1] + " of " + a[0], x.chance(a[0], a[1]), a[2]);
        int[][] bad = {{0, 0}, {-1, 0}, {41, 0}, {5, 6}, {5, -1}, {Integer.MAX_VALUE, 1}};
        for (int[] a : bad) due("27: BAD", x.chance(a[0], a[1]), -1);
    }
}
