/** The sentences of Terms 1, and of promises 1 to 6, 8, 28, 29, that name a boundary case. */
public final class EdgesOfStonesTest {
    private static final int VOID = -2000000000;
    private static final Check CHECK = new Check();

    private static void due(String what, long got, long want) { CHECK.due(what, got, want); }

    private static void sentence(String words) { CHECK.sentence(words); }

    /** A text on a new object: the FAULT's place, or -1: it is a STONE. */
    private static void fault(String text, int place) {
        TurnsOneWay x = new TurnsOneWay();
        due("stone of " + text, Check.stone(x, text), place < 0 ? 0 : -100 - place);
        due("the tape behind " + text, x.count(3), 0);
        due("stones behind " + text, x.count(0), place < 0 ? 1 : 0);
    }

    private static void whole(String text) { fault(text, -1); }

    public static void main(String[] args) {
        newObject();
        feeding();
        tapeFull();
        stonesFull();
        lumpCounts();
        lumpDigits();
        everyByte();
        rates();
        blanks();
        tooEarly();
        emptied();
        ways();
        keen();
        numbersTold();
        setting();
        grows();
        undoing();
        doneAgain();
        fortyKept();
        CHECK.close();
    }

    private static void newObject() {
        sentence("P1: No stones, no floors");
        TurnsOneWay x = new TurnsOneWay();
        due("stones", x.count(0), 0);
        due("floors", x.count(1), 0);
        due("of(0, 0)", x.of(0, 0), VOID);
        due("the first stone's number", Check.stone(x, "1+0+0/0,0,0,0"), 0);
        due("floor 0 is none", x.roll(0, 0, 0, 0), VOID);
        due("the first floor's number", Check.floor(x, "1"), 0);
        sentence("P1: a new object holds nothing else");
        x = new TurnsOneWay();
        for (int what = 2; what <= 6; what++) due("count(" + what + ")", x.count(what), 0);
        due("no GOING", x.back(-1), -5);
        due("no changes", x.undo(), -5);
        due("none undone", x.redo(), -5);
        due("no FRAMES", x.cut(), 0);
        due("no TRACE", x.trace(0), -1);
        for (int shelf = 0; shelf < 6; shelf++) due("shelf " + shelf, x.taken(shelf, 0), -11);
    }

    private static void feeding() {
        sentence("P2: n (1 .. 4) bytes come");
        for (int n = 1; n <= 4; n++) due("feed " + n, new TurnsOneWay().feed(n, 0), n);
        TurnsOneWay x = new TurnsOneWay();
        for (int n : new int[] {0, 5, -1, Integer.MAX_VALUE, Integer.MIN_VALUE}) due("feed " + n, x.feed(n, '1'), -1);
        due("none came", x.count(3), 0);
        sentence("P2: the lowest of v first");
        x.feed(4, '9' | '-' << 8 | '8' << 16 | '+' << 24);
        x.feed(3, '7' | '/' << 8 | '1' << 16 | 'x' << 24);
        x.feed(2, ',' | '2' << 8 | 'x' << 16 | 'x' << 24);
        x.feed(1, ',' | 'x' << 8);
        x.feed(3, '3' | ',' << 8 | '4' << 16 | -1 << 24);
        due("the stone", x.stone(), 0);
        int[] dues = {9, -8, 7};
        for (int what = 0; what < 3; what++) due("lump " + what, x.lump(0, 0, what), dues[what]);
        for (int what = 6; what < 10; what++) due("of " + what, x.of(0, what), what - 5);
        sentence("P2: v below 0, its highest byte");
        x.feed(4, '1' | '+' << 8 | '1' << 16 | 0x80 << 24);
        due("the fourth byte goes on with no text", x.stone(), -103);
        x.feed(4, -1);
        due("the first, too", x.stone(), -100);
    }

    private static void tapeFull() {
        sentence("P2: FULL (120)");
        for (int n = 1; n <= 4; n++) {
            for (int room = 0; room <= 4; room++) {
                TurnsOneWay x = new TurnsOneWay();
                for (int i = 0; i < 120 - room; i++) x.feed(1, 'v');
                due(n + " bytes where " + room + " find room", x.feed(n, 0), n <= room ? 120 - room + n : -3);
                due("the tape then", x.count(3), n <= room ? 120 - room + n : 120 - room);
            }
        }
        sentence("P2: FULL changes nothing");
        TurnsOneWay x = new TurnsOneWay();
        for (int i = 0; i < 59; i++) Check.feed(x, "1;");
        due("three do not come in part", x.feed(3, ';' | ';' << 8 | ';' << 16), -3);
        Check.feed(x, "1");
        due("one more", x.count(3), 119);
        due("the text is as it was", x.floor(), 0);
        sentence("P2: BAD ahead of FULL");
        for (int i = 0; i < 30; i++) x.feed(4, 0);
        due("five on a full tape", x.feed(5, 0), -1);
        due("none on a full tape", x.feed(0, 0), -1);
        due("one on a full tape", x.feed(1, 0), -3);
        sentence("T1: THE TAPE (at most 120 bytes)");
        x = new TurnsOneWay();
        Check.feed(x, "10" + ";v".repeat(59));
        due("120 bytes are a text", x.floor(), 0);
        Check.feed(x, "1" + ";v".repeat(59) + ";");
        due("of 120 bytes, it ends too early", x.floor(), -220);
        Check.feed(x, "10" + ";v".repeat(58) + ";x");
        due("a FAULT at the last place", x.floor(), -219);
        Check.feed(x, "1".repeat(120));
        due("no STONE of 120 bytes", x.stone(), -101);
    }

    private static void stonesFull() {
        sentence("T1: STONES 0 .. 5; P3: FULL: 6 (it stays)");
        TurnsOneWay x = new TurnsOneWay();
        for (int i = 0; i < 6; i++) due("stone", Check.stone(x, "1+0+" + i + "/0,0,0,0"), i);
        due("the seventh", Check.stone(x, "1+0+9/0,0,0,0"), -3);
        due("the tape stays", x.count(3), 13);
        due("the stones stay", x.count(0), 6);
        due("there is none of number 6", x.of(6, 0), VOID);
        for (int i = 0; i < 6; i++) due("stone " + i + " is as it was", x.lump(i, 0, 2), i);
        due("no FLOOR, with its FAULT", x.floor(), -107);
        Check.feed(x, "v");
        due("FULL again", x.stone(), -3);
        due("what stayed becomes a FLOOR", x.floor(), 0);
        sentence("P3: FULL with an empty tape, too");
        due("the tape is empty", x.count(3), 0);
        due("stone()", x.stone(), -3);
    }

    private static String lumps(int n) {
        StringBuilder text = new StringBuilder("1+1+1");
        for (int i = 1; i < n; i++) text.append(";1-1-1");
        return text.toString();
    }

    private static void lumpCounts() {
        sentence("T1: 1 to 12 LUMPS");
        fault("/1,1,1,1", 0);
        for (int n = 1; n <= 12; n++) {
            TurnsOneWay x = new TurnsOneWay();
            due(n + " lumps", Check.stone(x, lumps(n) + "/1,1,1,1"), 0);
            due(n + " lumps are told", x.of(0, 0), n);
            due("the last of " + n, x.lump(0, n - 1, 0), 1);
            due("none behind the last of " + n, x.lump(0, n, 0), VOID);
        }
        sentence("T1: a thirteenth LUMP: its ;");
        fault(lumps(13) + "/1,1,1,1", 71);
        fault(lumps(12) + ";", 71);
        fault(lumps(12), 71);
        fault(lumps(20), 71);
    }

    private static void lumpDigits() {
        sentence("T1: a weight (a digit 1 .. 9)");
        for (int b = '0' - 1; b <= '9' + 1; b++) fault((char) b + "+1+1/1,1,1,1", b >= '1' && b <= '9' ? -1 : 0);
        for (int b = '0' - 1; b <= '9' + 1; b++) fault("1+1+1;" + (char) b + "+1+1/1,1,1,1", b >= '1' && b <= '9' ? -1 : 6);
        fault("10+1+1/1,1,1,1", 1);
        sentence("T1: x, then y (+ or -, and a digit)");
        for (int v = 0; v <= 9; v++) {
            TurnsOneWay x = new TurnsOneWay();
            due("stone", Check.stone(x, "1+" + v + "-" + v + "/0,0,0,0"), 0);
            due("x", x.lump(0, 0, 1), v);
            due("y", x.lump(0, 0, 2), -v);
            due("stone", Check.stone(x, "1-" + v + "+" + v + "/0,0,0,0"), 1);
            due("x", x.lump(1, 0, 1), -v);
            due("y", x.lump(1, 0, 2), v);
        }
        fault("1+10+1/1,1,1,1", 3);
        fault("1+1+10/1,1,1,1", 5);
        fault("11+1/1,1,1,1", 1);
        fault("1++1+1/1,1,1,1", 2);
        fault("1+1/1,1,1,1", 3);
    }

    /** At each place of a text each byte: it goes on there, or its place is the FAULT. */
    private static void everyByte() {
        sentence("T1: FAULT: the place of the first byte with which no text goes on");
        String text = "2+9-1;7-9+1/12,345,06,09";
        String d = "0123456789", w = "123456789", s = "+-", l = ";/", n = d + ",";
        String[] on = {w, s, d, s, d, l, w, s, d, s, d, l, d, n, n, d, n, n, ",", d, n, n, d, d, d};
        due("places", on.length, text.length() + 1);
        for (int at = 0; at < on.length; at++) {
            for (int b = 0; b < 256; b++) {
                String rest = at < text.length() ? text.substring(at + 1) : "";
                int got = Check.stone(new TurnsOneWay(), text.substring(0, at) + (char) b + rest);
                if (on[at].indexOf(b) < 0) due("byte " + b + " at " + at, got, -100 - at);
                else due("byte " + b + " goes on at " + at + ", answered " + got, got == 0 || got < -100 - at ? 1 : 0, 1);
            }
        }
        fault(text + ";", text.length());
        fault("1+1+1/1,2,3,4,", 13);
        fault("1+1+1/1,2,3;4", 11);
        fault("1+1+1,1,2,3,4", 5);
    }

    private static void rate(int which, String number, int place) {
        StringBuilder text = new StringBuilder("1+1+1");
        for (int i = 0; i < 4; i++) text.append(i == 0 ? '/' : ',').append(i == which ? number : "1");
        TurnsOneWay x = new TurnsOneWay();
        int begin = 6 + 2 * which;
        due("the number " + number + " as " + "ABCD".charAt(which), Check.stone(x, text.toString()), place < 0 ? 0 : -100 - begin - place);
        if (place < 0) due("its value", x.of(0, 6 + which), Integer.parseInt(number));
    }

    private static void rates() {
        sentence("T1: A, B: 1 to 3 digits (0 .. 999)");
        for (int which = 0; which < 2; which++) {
            for (String number : new String[] {"0", "00", "000", "9", "99", "100", "101", "999", "007"}) rate(which, number, -1);
            rate(which, "1000", 3);
            rate(which, "0000", 3);
            rate(which, "9999", 3);
            rate(which, "", 0);
            rate(which, "-1", 0);
            rate(which, "+1", 0);
        }
        sentence("T1: C, D: 1 to 3 digits (0 .. 100)");
        for (int which = 2; which < 4; which++) {
            for (String number : new String[] {"0", "00", "000", "9", "99", "099", "100"}) rate(which, number, -1);
            rate(which, "0000", 3);
            rate(which, "1000", 3);
            rate(which, "", 0);
        }
        sentence("T1: a number above 100 as C, D: its first digit");
        for (int which = 2; which < 4; which++) {
            for (String number : new String[] {"101", "110", "200", "999", "1010", "101x"}) rate(which, number, 0);
        }
        fault("1+1+1/1,1,101", 10);
        fault("1+1+1/1,1,1,101", 12);
    }

    private static void blanks() {
        sentence("T1: No blanks");
        String text = "2+9-1;7-9+1/12,345,67,9";
        for (int at = 0; at <= text.length(); at++) fault(text.substring(0, at) + " " + text.substring(at), at);
        fault(" ", 0);
        fault("\t", 0);
    }

    private static void tooEarly() {
        sentence("T1: FAULT: the length, if it ends too early");
        String text = "2+9-1;7-9+1/12,345,67,9";
        for (int length = 0; length < text.length(); length++) fault(text.substring(0, length), length);
        whole(text);
        whole(text + "9");
        String longest = lumps(12) + "/999,999,100,100";
        for (int length = 0; length < longest.length() - 2; length++) fault(longest.substring(0, length), length);
        whole(longest.substring(0, longest.length() - 2));
        whole(longest);
    }

    private static void emptied() {
        sentence("P3: THE TAPE is empty then");
        TurnsOneWay x = new TurnsOneWay();
        due("a FAULT", Check.stone(x, "1+1+1/1,2,3x"), -111);
        due("no bytes", x.count(3), 0);
        due("of an empty tape", x.stone(), -100);
        due("nothing is left of it", Check.stone(x, "4+0-0/1,2,3,4"), 0);
        due("no bytes", x.count(3), 0);
        due("of an empty tape", x.stone(), -100);
        due("a stone takes the number that no text took", Check.stone(x, "5+0-0/1,2,3,4"), 1);
        sentence("P3: a text that is none leaves no trace in the next STONE");
        x = new TurnsOneWay();
        Check.stone(x, lumps(12) + "/9,9,9,9,");
        Check.stone(x, "2+3+1/5,6,7,8");
        due("LUMPS", x.of(0, 0), 1);
        due("W", x.of(0, 1), 2);
        due("XX", x.of(0, 2), 0);
        due("A", x.of(0, 6), 5);
        due("lump 1", x.lump(0, 1, 0), VOID);
    }

    private static void ways() {
        sentence("T1: WAYS: the least and the greatest sums");
        TurnsOneWay x = new TurnsOneWay();
        Check.stone(x, "1+0+0/0,0,0,0");
        int[] least = {1, 1, 0, 0, 0, 0};
        for (int what = 0; what < 6; what++) due("of one LUMP: " + what, x.of(0, what), least[what]);
        StringBuilder text = new StringBuilder("9+9+9");
        for (int i = 1; i < 12; i++) text.append(i % 2 == 0 ? ";9+9+9" : ";9-9-9");
        Check.stone(x, text + "/0,0,0,0");
        int[] most = {12, 108, 944784, 944784, 944784, 9};
        for (int what = 0; what < 6; what++) due("of twelve LUMPS: " + what, x.of(1, what), most[what]);
        Check.stone(x, text.toString().replace("9+9+9", "9+9-9").replace("9-9-9", "9-9+9") + "/0,0,0,0");
        due("XY below 0", x.of(2, 4), -944784);
        due("KEEN below 0", x.of(2, 5), -9);
        Check.stone(x, "9+9+9;9+9+9;9+9+9/0,0,0,0");
        due("all at one place: XX", x.of(3, 2), 0);
        due("all at one place: KEEN", x.of(3, 5), 0);
    }

    private static void keenOf(String lumps, int keen) {
        TurnsOneWay x = new TurnsOneWay();
        Check.stone(x, lumps + "/0,0,0,0");
        due("KEEN of " + lumps, x.of(0, 5), keen);
    }

    private static void keen() {
        sentence("T1: KEEN: by (the size of XX less YY, and 1)");
        // XX is YY: 18 by 1
        keenOf("1+1+1;1+0+0", 9);
        keenOf("1+1-1;1+0+0", -9);
        // XX 36, YY 0; XX 0, YY 36
        keenOf("1+6+0;1+0+0", 0);
        keenOf("1+0+6;1+0+0", 0);
        // XX 4325, YY 1428, XY 1610: 28980 by 2898; XX 4, YY 1, XY 2: 36 by 4
        keenOf("1-3-4;5+2+6;8-8+2", 9);
        keenOf("1-4+1;1-6+0", 9);
        // 418, 552, 60: 1080 by 135
        keenOf("2+8-7;3+1-9;2+3-1", 8);
        sentence("T1: KEEN: cut toward 0");
        // 357, 1620, 630: 11340 by 1264; and 8 by -8 for the other slant
        keenOf("8+3+3;5+5+9;1+0+3", 8);
        keenOf("9-6+7;3-6+1;9-3+1", -8);
        // 490, 238, 14: 252 by 253; 22048, 104, -1200: -21600 by 21945
        keenOf("1-3-4;4+4-2;6+4-5", 0);
        keenOf("8+9-7;1-1-8;8-9-6", 0);
        keenOf("1-6+9;1-7-9", 1);
        keenOf("1+9-4;1-9-3", -1);
        sentence("T1: KEEN: held within -9 .. 9");
        // -1 by -2, 4: -36 by 4; 675, 1187, -285: -5130 by 513
        keenOf("1-5-7;1-6-5", -9);
        keenOf("8-3-5;1-3+5;3+2-6", -9);
        keenOf("9+9+9;9-9-9", 9);
        keenOf("9+9-9;9-9+9", -9);
        for (int k = -9; k <= 9; k++) keenOf(Check.lumpsOfKeen(k), k);
    }

    private static void numbersTold() {
        TurnsOneWay x = new TurnsOneWay();
        Check.stone(x, "2+3-4;7-1+9/12,345,67,8");
        sentence("P4: what 0 .. 9; VOID: BAD");
        int[] due = {2, 9, 224, 2366, -728, -6, 12, 345, 67, 8};
        for (int what = 0; what <= 9; what++) due("what " + what, x.of(0, what), due[what]);
        for (int what : new int[] {-1, 10, 11, Integer.MIN_VALUE, Integer.MAX_VALUE}) due("what " + what, x.of(0, what), VOID);
        for (int stone : new int[] {-1, 1, 5, 6, Integer.MIN_VALUE, Integer.MAX_VALUE}) due("stone " + stone, x.of(stone, 0), VOID);
        sentence("P5: LUMP i, what 0 .. 2; VOID: BAD");
        int[][] lumps = {{2, 3, -4}, {7, -1, 9}};
        for (int i = 0; i < 2; i++) {
            for (int what = 0; what <= 2; what++) due("lump " + i + " " + what, x.lump(0, i, what), lumps[i][what]);
            due("lump " + i + " 3", x.lump(0, i, 3), VOID);
            due("lump " + i + " -1", x.lump(0, i, -1), VOID);
        }
        for (int i : new int[] {-1, 2, 11, 12, Integer.MIN_VALUE, Integer.MAX_VALUE}) due("lump " + i, x.lump(0, i, 0), VOID);
        for (int stone : new int[] {-1, 1, 6, Integer.MIN_VALUE}) due("stone " + stone, x.lump(stone, 0, 0), VOID);
    }

    private static void setting() {
        sentence("P6: A, B (0 .. 999), C, D (0 .. 100): what it was");
        TurnsOneWay x = new TurnsOneWay();
        Check.stone(x, lumps(12) + "/12,345,67,8");
        int[] was = {12, 345, 67, 8};
        for (int what = 6; what <= 9; what++) {
            int most = what < 8 ? 999 : 100;
            due("to 0", x.set(0, what, 0), was[what - 6]);
            due("is 0", x.of(0, what), 0);
            due("to the most", x.set(0, what, most), 0);
            due("is the most", x.of(0, what), most);
            for (int v : new int[] {-1, most + 1, Integer.MIN_VALUE, Integer.MAX_VALUE}) due(what + " to " + v, x.set(0, what, v), -1);
            due("is the most still", x.of(0, what), most);
        }
        due("eight changes", x.count(4), 8);
        sentence("P6: the weight of LUMP i (10 and i), 1 .. 9");
        for (int i : new int[] {0, 11}) {
            due("to 9", x.set(0, 10 + i, 9), 1);
            due("is 9", x.lump(0, i, 0), 9);
            due("to 1", x.set(0, 10 + i, 1), 9);
            for (int v : new int[] {0, 10, -1, Integer.MIN_VALUE, Integer.MAX_VALUE}) due("to " + v, x.set(0, 10 + i, v), -1);
            due("is 1 still", x.lump(0, i, 0), 1);
        }
        for (int what : new int[] {5, 0, -1, 22, 23, Integer.MIN_VALUE, Integer.MAX_VALUE}) due("what " + what, x.set(0, what, 1), -1);
        for (int stone : new int[] {-1, 1, 6}) due("stone " + stone, x.set(stone, 6, 1), -1);
        due("twelve changes", x.count(4), 12);
        sentence("P6: by a weight W, XX, YY, XY, KEEN become others");
        Check.stone(x, "1+9+1;1-9-1/0,0,0,0");
        due("KEEN ahead", x.of(1, 5), 2);
        x.set(1, 10, 9);
        int[] due = {2, 10, 10 * 810 - 72 * 72, 10 * 10 - 8 * 8, 10 * 90 - 72 * 8, 2};
        for (int what = 0; what < 6; what++) due("of " + what, x.of(1, what), due[what]);
        sentence("P6: to what stands already it is no change");
        int before = x.count(4);
        due("weight", x.set(1, 10, 9), 9);
        due("A", x.set(1, 6, 0), 0);
        due("as many changes", x.count(4), before);
    }

    private static void grows() {
        sentence("T3: GROWS: P, if k is above 0 (to the left), Q the other way about; none with k 0");
        for (int k = -9; k <= 9; k++) {
            TurnsOneWay x = Check.ofKeen(k, "0,0,0,0");
            due("left by " + k, x.grows(0, 1), k > 0 ? 1 : k < 0 ? 2 : 0);
            due("right by " + k, x.grows(0, -1), k > 0 ? 2 : k < 0 ? 1 : 0);
        }
        sentence("P8: side 1 left, -1 right; BAD");
        for (int k = 0; k <= 2; k += 2) {
            TurnsOneWay x = Check.ofKeen(k, "0,0,0,0");
            for (int side : new int[] {0, 2, -2, Integer.MIN_VALUE, Integer.MAX_VALUE}) due("side " + side, x.grows(0, side), -1);
            for (int stone : new int[] {-1, 1, 6}) due("stone " + stone, x.grows(stone, 1), -1);
        }
    }

    private static void undoing() {
        sentence("T4: UNDONE, the latest first; P28: how many may still be; STATE: none");
        TurnsOneWay x = new TurnsOneWay();
        due("a new object", x.undo(), -5);
        Check.stone(x, "1+0+0/0,0,0,0");
        Check.stone(x, "1+9+1;1-9-1/0,0,0,0");
        due("a STONE that came is no change", x.undo(), -5);
        for (int i = 0; i < 4; i++) x.set(i % 2, 6 + i, 10 + i);
        x.set(1, 11, 5);
        due("the weight", x.undo(), 4);
        due("is 1 again", x.lump(1, 1, 0), 1);
        due("and so is W", x.of(1, 1), 2);
        for (int i = 3; i >= 0; i--) {
            due("is as it became", x.of(i % 2, 6 + i), 10 + i);
            due("still", x.undo(), i);
            due("is as it was", x.of(i % 2, 6 + i), 0);
            due("count(4)", x.count(4), i);
        }
        due("none is left", x.undo(), -5);
        due("none is left, again", x.undo(), -5);
        due("all may be done again", x.redo(), 4);
        sentence("T4: the first CHANGE is as good as another: of each STONE, of each number");
        for (int stone = 0; stone < 6; stone++) {
            for (int what = 6; what <= 12; what++) {
                TurnsOneWay y = new TurnsOneWay();
                for (int i = 0; i < 6; i++) Check.stone(y, "3+1+1;3+1+1;3+1+1/3,3,3,3");
                due("was", y.set(stone, what, 7), 3);
                due("undone", y.undo(), 0);
                for (int i = 0; i < 6; i++) due("A to D, W of " + i, sumOf(y, i), 3 * 4 + 9);
                due("done again", y.redo(), 0);
                for (int i = 0; i < 6; i++) due("A to D, W of " + i, sumOf(y, i), 3 * 4 + 9 + (i == stone ? 4 : 0));
                due("the number", what < 10 ? y.of(stone, what) : y.lump(stone, what - 10, 0), 7);
            }
        }
    }

    private static int sumOf(TurnsOneWay x, int stone) {
        return x.of(stone, 1) + x.of(stone, 6) + x.of(stone, 7) + x.of(stone, 8) + x.of(stone, 9);
    }

    private static void doneAgain() {
        sentence("T4: DONE AGAIN; P29: how many may still be; STATE: none");
        TurnsOneWay x = new TurnsOneWay();
        due("a new object", x.redo(), -5);
        Check.stone(x, "1+9+1;1-9-1/0,0,0,0");
        for (int i = 0; i < 4; i++) x.set(0, 6 + i, 10 + i);
        due("none was undone", x.redo(), -5);
        for (int i = 0; i < 4; i++) x.undo();
        for (int i = 0; i < 4; i++) {
            due("is as it was", x.of(0, 6 + i), 0);
            due("still", x.redo(), 3 - i);
            due("is as it became", x.of(0, 6 + i), 10 + i);
            due("count(4)", x.count(4), i + 1);
        }
        due("none is left", x.redo(), -5);
        sentence("T4: DONE AGAIN (as long as no other came behind)");
        x.undo();
        x.undo();
        due("BAD is no change", x.set(0, 6, 1000), -1);
        due("what stands already is none", x.set(0, 6, 10), 10);
        due("no GOING is", x.roll(9, 1, 1, 1), 1);
        due("so it may", x.redo(), 1);
        due("C", x.of(0, 8), 12);
        due("another comes behind", x.set(0, 7, 99), 11);
        due("so it may not", x.redo(), -5);
        due("D stays", x.of(0, 9), 0);
        due("the new one is undone first", x.undo(), 3);
        due("B", x.of(0, 7), 11);
        due("and may be done again", x.redo(), 0);
        due("B again", x.of(0, 7), 99);
        sentence("T4: another of another STONE, too, came behind");
        Check.stone(x, "1+0+0/0,0,0,0");
        x.undo();
        x.set(1, 6, 7);
        due("redo", x.redo(), -5);
        due("B is not changed", x.of(0, 7), 11);
    }

    private static void fortyKept() {
        sentence("T4: 40 at most are kept");
        for (int n = 39; n <= 41; n++) {
            TurnsOneWay x = new TurnsOneWay();
            Check.stone(x, "1+0+0/500,0,0,0");
            for (int i = 1; i <= n; i++) x.set(0, 6, i);
            due("changes of " + n, x.count(4), Math.min(40, n));
            for (int i = Math.min(40, n) - 1; i >= 0; i--) {
                due("undo", x.undo(), i);
                int was = n == 41 ? i + 1 : i;
                due("A as it was", x.of(0, 6), was == 0 ? 500 : was);
            }
            due("no more of " + n, x.undo(), -5);
            due("A of " + n, x.of(0, 6), n == 41 ? 1 : 500);
            for (int i = Math.min(40, n) - 1; i >= 0; i--) {
                due("redo", x.redo(), i);
                due("A as it became", x.of(0, 6), n - i);
            }
            due("no more again of " + n, x.redo(), -5);
            due("A at last", x.of(0, 6), n);
        }
        sentence("T4: the 40th may come behind one that was undone, and pushes none out");
        TurnsOneWay x = new TurnsOneWay();
        Check.stone(x, "1+0+0/500,0,0,0");
        for (int i = 1; i <= 40; i++) x.set(0, 6, i);
        x.undo();
        x.set(0, 6, 900);
        due("changes", x.count(4), 40);
        for (int i = 39; i >= 0; i--) due("undo", x.undo(), i);
        due("the oldest, too", x.of(0, 6), 500);
        sentence("T4: with 40 kept, a change that is none pushes none out");
        for (int i = 0; i < 40; i++) x.redo();
        x.set(0, 6, 900);
        x.set(0, 6, 1000);
        for (int i = 39; i >= 0; i--) x.undo();
        due("the oldest, too", x.of(0, 6), 500);
    }
}
