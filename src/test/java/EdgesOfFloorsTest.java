/** The sentences of Terms 2 on FLOORS, and of promise 7, that name a boundary case. */
public final class EdgesOfFloorsTest {
    private static final String NAMES = "wvspqi", DIGITS = "0123456789", OPENERS = "(!-";
    private static final String STARTS = NAMES + DIGITS + OPENERS;
    private static final String COMPARERS = "<=>", JOINERS = "|&+-*/%";
    private static final Check CHECK = new Check();

    private static void due(String what, long got, long want) { CHECK.due(what, got, want); }

    private static void sentence(String words) { CHECK.sentence(words); }

    private static void fault(String text, int place) {
        TurnsOneWay x = new TurnsOneWay();
        due("floor of " + text, Check.floor(x, text), place < 0 ? 0 : -100 - place);
        due("the tape behind " + text, x.count(3), 0);
        due("floors behind " + text, x.count(1), place < 0 ? 1 : 0);
    }

    private static void whole(String text) { fault(text, -1); }

    /** What the text takes of s -20, p 500, q 7 in the first TICK, by a stone without a slant. */
    private static void takes(String text, int ofS, int ofP, int ofQ) {
        TurnsOneWay x = Check.ofThree("0,0,0,0");
        due("floor of " + text, Check.floor(x, text), 0);
        due("s by " + text, x.roll(0, -20, 500007, 1), ofS - 20);
        due("p by " + text, x.going(1, 1), 500 - ofP);
        due("q by " + text, x.going(1, 2), 7 - ofQ);
        due("LOST of s by " + text, x.told(2), ofS);
        due("LOST of p by " + text, x.told(3), ofP);
        due("LOST of q by " + text, x.told(4), ofQ);
    }

    /** The number that the text gives, which is -1 .. 6. */
    private static void gives(String text, int v) { takes("(" + text + ")+1", v + 1, v + 1, v + 1); }

    public static void main(String[] args) {
        fourFloors();
        emptied();
        noLeavings();
        everyByte();
        numbers();
        lines();
        comparing();
        open();
        blanks();
        tooEarly();
        names();
        wrapping();
        byZero();
        towardZero();
        oneOrZero();
        whichLine();
        held();
        longest();
        CHECK.close();
    }

    private static void fourFloors() {
        sentence("T2: FLOORS 0 .. 3; P7: FULL: 4 (it stays)");
        TurnsOneWay x = Check.ofThree("0,0,0,0");
        for (int i = 0; i < 4; i++) due("floor", Check.floor(x, "" + (i + 1)), i);
        due("the fifth", Check.floor(x, "1+0+0/1"), -3);
        due("the tape stays", x.count(3), 7);
        due("the floors stay", x.count(1), 4);
        for (int i = 0; i < 4; i++) due("floor " + i + " is as it was", x.roll(i, 9, 0, 1), 8 - i);
        due("there is none of number 4", x.roll(4, 9, 0, 1), -2000000000);
        due("FULL again", x.floor(), -3);
        Check.feed(x, ",2,3,4");
        due("what stayed becomes a STONE", x.stone(), 3);
        due("FULL of an empty tape", x.floor(), -3);
    }

    private static void emptied() {
        sentence("P7: THE TAPE is empty then");
        TurnsOneWay x = Check.ofThree("0,0,0,0");
        due("a FAULT", Check.floor(x, "9;8;7+"), -106);
        due("no bytes", x.count(3), 0);
        due("of an empty tape", x.floor(), -100);
        due("a floor", Check.floor(x, "1"), 0);
        due("no bytes", x.count(3), 0);
        due("of an empty tape", x.floor(), -100);
        due("a floor takes the number that no text took", Check.floor(x, "2"), 1);
        due("nothing is left of the first text", x.roll(0, 9, 0, 1), 8);
        due("nor in the second", x.roll(1, 9, 0, 1), 7);
        due("nor of a stone's FAULT", Check.stone(x, "1+"), -102);
        due("a floor", Check.floor(x, "3"), 2);
    }

    private static void noLeavings() {
        sentence("P7: a text that is none leaves nothing in the next FLOOR");
        String[] faults = {"9;9;9;9;9;9x", "9?9;9?9;9?9;9x", "9+9*9-9;9&9;9|9x"};
        for (String fault : faults) {
            for (String text : new String[] {"0?5", "0?!5", "0?1+5", "0?!!5", "0?--5", "0?p*5", "0?1;0?2", "0?1;0?!2", "0?!1;0?!2"}) {
                TurnsOneWay x = Check.ofThree("0,0,0,0");
                due("fault of " + fault, Check.floor(x, fault), -100 - fault.length() + 1);
                due("floor of " + text, Check.floor(x, text), 0);
                due("it takes nothing", x.roll(0, 20, 500007, 3), 20);
                for (int what = 2; what <= 4; what++) due("LOST " + what, x.told(what), 0);
            }
        }
    }

    /** Behind a beginning each byte: it goes on with these signs and no others. */
    private static void goesOn(String begin, String signs) {
        for (int b = 0; b < 256; b++) {
            String text = begin + (char) b;
            int parens = 0;
            for (int i = 0; i < text.length(); i++) parens += text.charAt(i) == '(' ? 1 : text.charAt(i) == ')' ? -1 : 0;
            boolean ends = (NAMES + DIGITS + ")").indexOf(b) >= 0 && parens == 0;
            int place = signs.indexOf(b) < 0 ? begin.length() : text.length();
            due("byte " + b + " behind " + begin, Check.floor(new TurnsOneWay(), text), signs.indexOf(b) >= 0 && ends ? 0 : -100 - place);
        }
    }

    private static void everyByte() {
        sentence("T2: FAULT likewise: the first byte with which no text goes on");
        String ends = "?;", behind = JOINERS + COMPARERS + ends;
        for (String begin : new String[] {"", "v+", "v;", "v?", "-", "!", "(", "v<", "v?q;", "(v|", "v&(", "v%-"}) goesOn(begin, STARTS);
        for (char name : NAMES.toCharArray()) goesOn("" + name, behind);
        goesOn("12", behind + DIGITS);
        goesOn("(v)", behind);
        goesOn("v+(v)", behind);
        goesOn("!v", behind);
        goesOn("-9999", behind);
        goesOn("(v", JOINERS + COMPARERS + ")");
        goesOn("(((9999", JOINERS + COMPARERS + ")");
        goesOn("((v)", JOINERS + COMPARERS + ")");
        goesOn("q?v", JOINERS + COMPARERS + ";");
        goesOn("q?(v", JOINERS + COMPARERS + ")");
        goesOn("q?v;p", behind);
    }

    private static void numbers() {
        sentence("T2: a number (1 to 4 digits)");
        for (String number : new String[] {"0", "9", "10", "99", "100", "999", "1000", "9999", "0000", "0009"}) whole(number);
        fault("10000", 4);
        fault("00000", 4);
        fault("v+99999", 6);
        goesOn("1", JOINERS + COMPARERS + "?;" + DIGITS);
        goesOn("123", JOINERS + COMPARERS + "?;" + DIGITS);
        goesOn("1234", JOINERS + COMPARERS + "?;");
        takes("9999-9998", 1, 1, 1);
        takes("0005", 5, 5, 5);
    }

    private static void lines() {
        sentence("T2: LINES, one or more, parted by ;");
        fault("", 0);
        fault(";", 0);
        fault("v;", 2);
        fault("v;;v", 2);
        fault("(v;v)", 2);
        whole("v");
        whole("v;v");
        whole("1" + ";1".repeat(59));
        sentence("T2: LINE: E, or E ? E");
        whole("v?v");
        fault("?v", 0);
        fault("v?", 2);
        fault("v??v", 2);
        fault("v?v?v", 3);
        whole("v?v;v?v");
        fault("v?v;v?v?v", 7);
        fault("(v?v)", 2);
        fault("v?(v?v)", 4);
    }

    private static void comparing() {
        sentence("T2: B = S, or S < S, S = S, S > S");
        for (char one : COMPARERS.toCharArray()) {
            whole("v" + one + "q");
            for (char two : COMPARERS.toCharArray()) {
                fault("v" + one + "q" + two + "p", 3);
                fault("(v" + one + "q" + two + "p)", 4);
                whole("(v" + one + "q)" + two + "p");
                whole("v" + one + "(q" + two + "p)");
                whole("v" + one + "q|q" + two + "p");
                whole("v" + one + "q&q" + two + "p");
                whole("v" + one + "q?q" + two + "p");
                whole("v" + one + "q;q" + two + "p");
                fault("v" + one + "q+q" + two + "p", 5);
                fault("v" + one + "q*q" + two + "p", 5);
                fault("v" + one + two + "q", 2);
            }
        }
    }

    /** The n openers that the number tells, by threes. */
    private static String openers(int number, int n) {
        StringBuilder text = new StringBuilder();
        for (int i = 0, left = number; i < n; i++, left /= 3) text.append(OPENERS.charAt(left % 3));
        return text.toString();
    }

    private static String closers(String openers) { return openers.replaceAll("[!-]", "").replace('(', ')'); }

    private static void open() {
        sentence("T2: At most 6 of ( ! - ahead of an O are open at once");
        for (int number = 0; number < 729; number++) {
            String six = openers(number, 6);
            whole(six + "v" + closers(six));
            for (char seventh : OPENERS.toCharArray()) fault(six + seventh + "v", 6);
            whole("1?" + six + "v" + closers(six));
            whole("v*" + six + "1" + closers(six) + "-" + six + "v" + closers(six));
        }
        goesOn("((((((", NAMES + DIGITS);
        goesOn("!!!!!!", NAMES + DIGITS);
        goesOn("------", NAMES + DIGITS);
        goesOn("v--!(-!(", NAMES + DIGITS);
        sentence("T2: open at once: a ( until its ), ! and - until their O ends");
        whole("(((((v+(v))))))");
        fault("((((((v+(v)))))))", 8);
        whole("(((((v)-(v)-(v)-!v--v))))");
        whole("!!!!(!v)");
        fault("!!!!!(!v)", 6);
        fault("!!!!!!(v)", 6);
        whole("!!!!(v+!v)");
        fault("!!!!(v+!!v)", 8);
        whole("!!!!!!v+!!!!!!v*------v");
        whole("(((((-1)))))-((((((v))))))");
        fault("((((((v)))-!(-", 14);
        fault("((((((v)))-!((v", 15);
        // behind three of six ) stand three open; - ahead of an O, and not between two, opens
        whole("((((((v)))-v-v-v)))");
        whole("((((((v)))-!!!v)))");
        fault("((((((v)))-!!!!v)))", 14);
    }

    private static void blanks() {
        sentence("T2: No blanks");
        String text = "w=0?(v+12)*-2;!i|p&q<34";
        for (int at = 0; at <= text.length(); at++) fault(text.substring(0, at) + " " + text.substring(at), at);
        fault(" ", 0);
        fault("v\n", 1);
    }

    private static void tooEarly() {
        sentence("T2: FAULT: the length, if it ends too early");
        // beneath each byte: whether the text up to it is whole
        String text = "w=0?(v+12)*-2;!i|p&q<34%((5))?-!(v)";
        String ends = "+.+......+..+..+.+.+.++.....+.....+";
        due("marks", ends.length(), text.length());
        for (int length = 1; length <= text.length(); length++) {
            fault(text.substring(0, length), ends.charAt(length - 1) == '+' ? -1 : length);
        }
    }

    private static void names() {
        sentence("T2: w of what (0 s, 1 p, 2 q)");
        takes("w+1", 1, 2, 3);
        takes("w=0", 1, 0, 0);
        takes("w=1", 0, 1, 0);
        takes("w=2", 0, 0, 1);
        sentence("T2: v how much that is (its size), s the size of the TURN, p, q");
        takes("v", 20, 500, 7);
        takes("v=20", 1, 0, 0);
        takes("s=20", 1, 1, 1);
        takes("p=500", 1, 1, 1);
        takes("q=7", 1, 1, 1);
        sentence("T2: of nothing it takes nothing");
        TurnsOneWay none = Check.ofThree("0,0,0,0");
        Check.floor(none, "9");
        due("s", none.roll(0, 0, 0, 5), 0);
        due("ENDED", none.told(0), 0);
        for (int what = 1; what <= 4; what++) due("told " + what, none.told(what), 0);
        sentence("T2: i which TICK (1 on)");
        TurnsOneWay x = Check.ofThree("0,0,0,0");
        Check.floor(x, "i=1");
        Check.floor(x, "i=400");
        Check.floor(x, "i<1|i>400");
        due("in the first", x.roll(0, 9, 0, 1), 8);
        due("in no other", x.roll(0, 9, 0, 400), 8);
        due("not ahead of the 400th", x.roll(1, 9, 0, 399), 9);
        due("in the 400th", x.roll(1, 9, 0, 400), 8);
        due("in none beyond", x.roll(2, 9, 0, 400), 9);
        due("from 1 on again in the next GOING", x.roll(0, 9, 0, 1), 8);
    }

    private static void wrapping() {
        sentence("T2: Ints that wrap");
        String two31 = "4096*4096*128", least = "(" + two31 + ")";
        gives(two31 + "<0", 1);
        gives(least + "-1>0", 1);
        gives("(" + two31 + "-1)+1<0", 1);
        gives("-" + least + "<0", 1);
        gives("-" + least + "=" + two31, 1);
        gives(least + "/-1=" + two31, 1);
        gives(least + "%-1", 0);
        gives("4096*4096*256", 0);
        gives("4096*4096*256+5", 5);
        gives("4096*4096*127>0", 1);
        gives("9999*9999*9999=-1027*1000*1000-349*1000-969", 1);
        gives("9999*9999*22<0&9999*9999*21>0", 1);
        sentence("T2: what has wrapped below 0 takes nothing");
        takes(two31, 0, 0, 0);
        takes("-" + least, 0, 0, 0);
        takes(least + "-1", 20, 500, 7);
    }

    private static void byZero() {
        sentence("T2: / and % by 0 give 0");
        for (String v : new String[] {"5", "-5", "0", "4096*4096*128", "9999"}) {
            gives(v + "/0", 0);
            gives(v + "%0", 0);
            gives("(" + v + ")/(3-3)", 0);
            gives("(" + v + ")%(q-q)", 0);
        }
        gives("6/0/0", 0);
        gives("6/0+3", 3);
        gives("6%0*9+2", 2);
        sentence("T2: all is worked out");
        gives("1|1/0", 1);
        gives("0&1%0", 0);
        takes("1?4;1/0", 4, 4, 4);
        takes("1/0?4;5", 5, 5, 5);
    }

    private static void towardZero() {
        sentence("T2: / and % toward 0");
        gives("7/2", 3);
        gives("-7/2+5", 2);
        gives("7/-2+5", 2);
        gives("-7/-2", 3);
        gives("-1/2", 0);
        gives("1/-2", 0);
        gives("7%2", 1);
        gives("-7%2", -1);
        gives("7%-2", 1);
        gives("-7%-2", -1);
        gives("-9999/5000", -1);
    }

    private static void oneOrZero() {
        sentence("T2: | & < = > ! give 1, 0");
        int[] values = {-2, -1, 0, 1, 2};
        for (int a : values) {
            String left = a < 0 ? "(0-" + -a + ")" : "" + a;
            gives("!" + left, a == 0 ? 1 : 0);
            gives("!!" + left, a == 0 ? 0 : 1);
            for (int b : values) {
                String right = b < 0 ? "(0-" + -b + ")" : "" + b;
                gives(left + "|" + right, a != 0 || b != 0 ? 1 : 0);
                gives(left + "&" + right, a != 0 && b != 0 ? 1 : 0);
                gives(left + "<" + right, a < b ? 1 : 0);
                gives(left + "=" + right, a == b ? 1 : 0);
                gives(left + ">" + right, a > b ? 1 : 0);
            }
        }
        gives("1|2&0", 1);
        gives("(1|2)&0", 0);
        gives("2&3|0", 1);
        gives("0|0|3", 1);
        gives("1&2&3", 1);
        gives("1&2&0", 0);
        sentence("T2: < and > of what is far apart do not wrap");
        gives("(4096*4096*128)<1", 1);
        gives("(4096*4096*128)>1", 0);
        gives("1>(4096*4096*128)", 1);
        gives("1<(4096*4096*128)", 0);
    }

    private static void whichLine() {
        sentence("T2: The first LINE without a first E counts");
        takes("2;3", 2, 2, 2);
        takes("0;3", 0, 0, 0);
        takes("0?1;2;3", 2, 2, 2);
        takes("2;1?3", 2, 2, 2);
        sentence("T2: or whose first E is not 0");
        takes("1?2;3", 2, 2, 2);
        takes("2?2;3", 2, 2, 2);
        takes("-1?2;3", 2, 2, 2);
        takes("4096*4096*128?2;3", 2, 2, 2);
        takes("0?2;3", 3, 3, 3);
        takes("-0?2;3", 3, 3, 3);
        takes("1-1?2;5?4;3", 4, 4, 4);
        takes("1?0;3", 0, 0, 0);
        takes("1?-9;3", 0, 0, 0);
        sentence("T2: none: 0");
        takes("0?9", 0, 0, 0);
        takes("0?9;0?8;0?7", 0, 0, 0);
        takes("w=2?9;0?8", 0, 0, 7);
        sentence("T2: each of s, p, q has its own LINE");
        takes("w=1?1;w?2;3", 3, 1, 2);
    }

    private static void held() {
        sentence("T2: What it takes: held within 0 .. v");
        takes("-1", 0, 0, 0);
        takes("-9999", 0, 0, 0);
        takes("0", 0, 0, 0);
        takes("1", 1, 1, 1);
        takes("v-1", 19, 499, 6);
        takes("v", 20, 500, 7);
        takes("v+1", 20, 500, 7);
        takes("9999", 20, 500, 7);
        takes("7", 7, 7, 7);
        takes("8", 8, 8, 7);
        takes("6", 6, 6, 6);
        takes("20", 20, 20, 7);
        takes("21", 20, 21, 7);
        takes("19", 19, 19, 7);
    }

    private static void longest() {
        sentence("T1: THE TAPE (at most 120 bytes): as a FLOOR, each byte a part of its own");
        takes("0?v;".repeat(29) + "1?!0", 1, 1, 1);
        takes("0?v;".repeat(29) + "0?!0", 0, 0, 0);
        takes("-v" + "+v-v".repeat(29) + "+v", 0, 0, 0);
        takes("-i" + "+v-v".repeat(29) + "+v", 19, 499, 6);
        takes("((((((1" + "+1".repeat(53) + "))))))", 20, 54, 7);
        whole("!!!!!!v" + "+------v".repeat(14));
    }
}
