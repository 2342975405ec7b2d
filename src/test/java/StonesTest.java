/** Promises 1 to 6, 8, 28, 29, 39: the tape, stones, changes. */
public final class StonesTest {
    private static final Check CHECK = new Check();

    private static void due(String what, long got, long want) { CHECK.due(what, got, want); }

    private static void fault(String text, int place) {
        TurnsOneWay x = new TurnsOneWay();
        due("stone of " + text, Check.stone(x, text), place < 0 ? 0 : -100 - place);
        due("tape behind " + text, x.count(3), 0);
        due("stones behind " + text, x.count(0), place < 0 ? 1 : 0);
    }

    public static void main(String[] args) {
        newObject();
        tape();
        faults();
        full();
        numbers();
        turns();
        changes();
        noChanges();
        manyChanges();
        CHECK.close();
    }

    private static void newObject() {
        TurnsOneWay x = new TurnsOneWay();
        for (int what = 0; what <= 6; what++) due("1: count " + what, x.count(what), 0);
        due("39: count -1", x.count(-1), -1);
        due("39: count 7", x.count(7), -1);
        due("1: of", x.of(0, 0), -2000000000);
        due("1: roll", x.roll(9, 0, 0, 0), -2000000000);
        due("1: taken", x.taken(0, 0), -11);
    }

    private static void tape() {
        TurnsOneWay x = new TurnsOneWay();
        due("2: none", x.feed(0, 1), -1);
        due("2: five", x.feed(5, 1), -1);
        due("2: least", x.feed(Integer.MIN_VALUE, 1), -1);
        for (int i = 1; i <= 30; i++) due("2: fours", x.feed(4, 0), 4 * i);
        due("2: 120 bytes", x.count(3), 120);
        due("2: one more", x.feed(1, 0), -3);
        due("2: BAD ahead of FULL", x.feed(5, 0), -1);
        x.stone();
        for (int i = 0; i < 29; i++) x.feed(4, -1);
        x.feed(2, -1);
        due("2: three have no room for two", x.feed(3, 0), -3);
        due("2: nothing came", x.count(3), 118);
        due("2: two have", x.feed(2, 0), 120);
        x.floor();
        x.feed(3, '1' | '+' << 8 | '2' << 16 | '9' << 24);
        x.feed(4, '-' | '3' << 8 | '/' << 16 | '0' << 24);
        Check.feed(x, ",0,0,0");
        due("2: lowest byte first", x.stone(), 0);
        due("2: x", x.lump(0, 0, 1), 2);
        due("2: y", x.lump(0, 0, 2), -3);
    }

    private static void faults() {
        String twelve = "1+0+0;2+0+0;3+0+0;4+0+0;5+0+0;6+0+0;7+0+0;8+0+0;9+0+0;1+0+0;1+0+0;1+0+0";
        fault("", 0);
        fault("0+1+1/0,0,0,0", 0);
        fault("a", 0);
        fault("1", 1);
        fault("11", 1);
        fault("1+", 2);
        fault("1+a", 2);
        fault("1+12", 3);
        fault("1+1-", 4);
        fault("1+1-1", 5);
        fault("1+1-11", 5);
        fault("1+1-1;", 6);
        fault("1+1-1;0", 6);
        fault("1+1-1 /", 5);
        fault("1+1-1/", 6);
        fault("1+1-1/,", 6);
        fault("1+1-1/1234,1,1,1", 9);
        fault("1+1-1/12,1234", 12);
        fault("1+1-1/1,1,101,1", 10);
        fault("1+1-1/1,1,101", 10);
        fault("1+1-1/1,1,1000,1", 13);
        fault("1+1-1/1,1,0999,1", 13);
        fault("1+1-1/1,1,100", 13);
        fault("1+1-1/1,1,1,", 12);
        fault("1+1-1/1,1,1,200", 12);
        fault("1+1-1/1,1,1,100", -1);
        fault("1+1-1/1,1,1,1000", 15);
        fault("1+1-1/999,999,100,100", -1);
        fault("1+1-1/007,00,000,010", -1);
        fault("1+1-1/1,1,1,1,", 13);
        fault("1+1-1/1,1,1,1;", 13);
        fault("1-0+0/1,1,1,1", -1);
        fault("1+\u00b11+1/1,1,1,1", 2);
        fault(twelve + "/1,1,1,1", -1);
        fault(twelve + ";1+0+0/1,1,1,1", 71);
    }

    private static void full() {
        TurnsOneWay x = new TurnsOneWay();
        for (int i = 0; i < 6; i++) due("3: stone", Check.stone(x, "1+0+0/0,0,0,0"), i);
        due("3: the seventh", Check.stone(x, "1+0+0/0,0,0,0"), -3);
        due("3: the tape stays", x.count(3), 13);
        Check.feed(x, "z");
        due("3: FULL of a text that is none", x.stone(), -3);
        due("3: still", x.count(3), 14);
        due("39: stones", x.count(0), 6);
    }

    private static void numbers() {
        TurnsOneWay x = new TurnsOneWay();
        Check.stone(x, "2+3-4;7-1+9/12,345,67,8");
        // W 9; sums: x -1, y 55, xx 25, yy 599, xy -87; XX 225 - 1, YY 5391 - 3025, XY -783 + 55
        long[] due = {2, 9, 224, 2366, -728, -6, 12, 345, 67, 8};
        for (int what = 0; what < due.length; what++) due("4: of " + what, x.of(0, what), due[what]);
        due("4: what 10", x.of(0, 10), -2000000000);
        due("4: what -1", x.of(0, -1), -2000000000);
        due("4: stone 1", x.of(1, 0), -2000000000);
        due("4: stone -1", x.of(-1, 0), -2000000000);
        due("5: weight", x.lump(0, 1, 0), 7);
        due("5: x", x.lump(0, 1, 1), -1);
        due("5: y", x.lump(0, 1, 2), 9);
        due("5: what 3", x.lump(0, 1, 3), -2000000000);
        due("5: what -1", x.lump(0, 1, -1), -2000000000);
        due("5: lump 2", x.lump(0, 2, 0), -2000000000);
        due("5: lump -1", x.lump(0, -1, 0), -2000000000);
        due("5: stone 1", x.lump(1, 0, 0), -2000000000);
        Check.stone(x, "9+9+9;9-9-9/0,0,0,0");
        due("4: KEEN is held", x.of(1, 5), 9);
        Check.stone(x, "9+9-9;9-9+9/0,0,0,0");
        due("4: KEEN is held below", x.of(2, 5), -9);
        Check.stone(x, "1+9-1;1-9+1/0,0,0,0");
        // XX 324, YY 4, XY -36: -648 / 321
        due("4: KEEN is cut toward 0", x.of(3, 5), -2);
    }

    private static void turns() {
        TurnsOneWay x = Check.ofThree("1,1,1,1");
        Check.stone(x, "1+9-1;1-9+1/0,0,0,0");
        due("8: no slant, left", x.grows(0, 1), 0);
        due("8: no slant, right", x.grows(0, -1), 0);
        due("8: left", x.grows(1, 1), 1);
        due("8: right", x.grows(1, -1), 2);
        due("8: left, the other slant", x.grows(3, 1), 2);
        due("8: right, the other slant", x.grows(3, -1), 1);
        for (int side : new int[] {0, 2, -2}) due("8: side " + side, x.grows(1, side), -1);
        due("8: stone 4", x.grows(4, 1), -1);
        due("8: stone -1", x.grows(-1, 1), -1);
    }

    private static void changes() {
        TurnsOneWay x = new TurnsOneWay();
        Check.stone(x, "2+9+1;7-9-1/12,345,67,8");
        int[][] bad = {{6, -1}, {6, 1000}, {7, 1000}, {8, 101}, {9, -1}, {9, 101}, {10, 0}, {10, 10}, {12, 1},
            {5, 1}, {-1, 1}, {Integer.MAX_VALUE, 1}, {Integer.MIN_VALUE, 1}};
        for (int[] pair : bad) due("6: " + pair[0] + " " + pair[1], x.set(0, pair[0], pair[1]), -1);
        due("6: stone 1", x.set(1, 6, 1), -1);
        due("6: no change came", x.count(4), 0);
        due("28: none", x.undo(), -5);
        due("29: none", x.redo(), -5);
        due("6: A", x.set(0, 6, 999), 12);
        due("6: B", x.set(0, 7, 0), 345);
        due("6: C", x.set(0, 8, 100), 67);
        due("6: D", x.set(0, 9, 0), 8);
        due("6: a weight", x.set(0, 11, 2), 7);
        due("6: W", x.of(0, 1), 4);
        due("6: XX", x.of(0, 2), 1296);
        due("39: changes", x.count(4), 5);
        due("28: the latest", x.undo(), 4);
        due("28: W again", x.of(0, 1), 9);
        due("28: XX again", x.of(0, 2), 9 * 729 - 45 * 45);
        due("28: D", x.undo(), 3);
        due("28: C", x.undo(), 2);
        due("28: of C", x.of(0, 8), 67);
        due("29: C", x.redo(), 2);
        due("29: of C", x.of(0, 8), 100);
        due("29: D is not yet", x.of(0, 9), 8);
        due("29: D", x.redo(), 1);
        due("29: the weight", x.redo(), 0);
        due("29: lump", x.lump(0, 1, 0), 2);
        due("29: no more", x.redo(), -5);
        due("28: once more", x.undo(), 4);
        due("6: BAD leaves what may be done again", x.set(0, 6, 1000), -1);
        due("29: it may", x.redo(), 0);
        due("28: and back", x.undo(), 4);
        due("6: another came behind", x.set(0, 6, 5), 999);
        due("29: so it may not", x.redo(), -5);
        due("6: the first weight", x.set(0, 10, 9), 2);
        due("6: and again", x.set(0, 10, 1), 9);
        due("6: 1", x.lump(0, 0, 0), 1);
        x.undo();
        due("28: 9", x.lump(0, 0, 0), 9);
        x.undo();
        due("28: 2", x.lump(0, 0, 0), 2);
        due("6: what it is, becomes it", x.set(0, 6, 5), 5);
        due("39: it is no change", x.count(4), 5);
        due("29: none came behind", x.redo(), 1);
        due("29: the first weight", x.lump(0, 0, 0), 9);
    }

    private static void noChanges() {
        TurnsOneWay x = new TurnsOneWay();
        Check.stone(x, "2+9+1;7-9-1/12,345,67,8");
        int[] stands = {12, 345, 67, 8, 2, 7};
        for (int i = 0; i < stands.length; i++) due("6: as it was", x.set(0, 6 + i, stands[i]), stands[i]);
        due("39: no change came", x.count(4), 0);
        due("28: none", x.undo(), -5);
        due("6: A", x.set(0, 6, 0), 12);
        due("6: A as it was", x.set(0, 6, 0), 0);
        due("39: one change", x.count(4), 1);
        due("28: it", x.undo(), 0);
        due("28: A again", x.of(0, 6), 12);
        for (int i = 0; i < stands.length; i++) due("6: as it was, ahead of redo", x.set(0, 6 + i, stands[i]), stands[i]);
        due("29: no other came behind", x.redo(), 0);
        due("29: of A", x.of(0, 6), 0);
        for (int i = 0; i < 39; i++) x.set(0, 7, i);
        due("39: 40 changes", x.count(4), 40);
        due("6: none pushes the oldest out", x.set(0, 7, 38), 38);
        for (int i = 39; i >= 0; i--) due("28: undo", x.undo(), i);
        due("28: the oldest, too", x.of(0, 6), 12);
    }

    private static void manyChanges() {
        TurnsOneWay x = new TurnsOneWay();
        Check.stone(x, "2+9+1/500,0,0,0");
        for (int i = 0; i < 43; i++) x.set(0, 6, i);
        due("28: 40 are kept", x.count(4), 40);
        for (int i = 39; i >= 0; i--) {
            due("28: undo", x.undo(), i);
            due("28: what it was", x.of(0, 6), i + 2);
        }
        due("28: no more", x.undo(), -5);
        due("28: as it was behind the third", x.of(0, 6), 2);
        for (int i = 39; i >= 0; i--) {
            due("29: redo", x.redo(), i);
            due("29: what it became", x.of(0, 6), 42 - i);
        }
        due("29: no more", x.redo(), -5);
        due("29: the latest", x.of(0, 6), 42);
    }
}
