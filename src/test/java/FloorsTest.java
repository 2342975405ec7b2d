/** Promise 7, and what a text takes. */
public final class FloorsTest {
    private static final Check CHECK = new Check();

    private static void due(String what, long got, long want) { CHECK.due(what, got, want); }

    private static void fault(String text, int place) {
        TurnsOneWay x = new TurnsOneWay();
        due("floor of " + text, Check.floor(x, text), place < 0 ? 0 : -100 - place);
        due("tape behind " + text, x.count(3), 0);
        due("floors behind " + text, x.count(1), place < 0 ? 1 : 0);
    }

    /** What the text takes of s 20, p 500, q 7 in the first TICK, by a stone without a slant. */
    private static void takes(String text, int ofS, int ofP, int ofQ) {
        TurnsOneWay x = Check.ofThree("0,0,0,0");
        due("floor of " + text, Check.floor(x, text), 0);
        due("s by " + text, x.roll(0, -20, 500007, 1), ofS - 20);
        due("LOST of s by " + text, x.told(2), ofS);
        due("LOST of p by " + text, x.told(3), ofP);
        due("LOST of q by " + text, x.told(4), ofQ);
        due("p by " + text, x.going(1, 1), 500 - ofP);
        due("q by " + text, x.going(1, 2), 7 - ofQ);
    }

    public static void main(String[] args) {
        faults();
        full();
        names();
        signs();
        lines();
        wraps();
        CHECK.close();
    }

    private static void faults() {
        fault("", 0);
        fault("z", 0);
        fault("+1", 0);
        fault("1", -1);
        fault("1234", -1);
        fault("12345", 4);
        fault("0000", -1);
        fault("vv", 1);
        fault("v1", 1);
        fault("1v", 1);
        fault("v+", 2);
        fault("v+*", 2);
        fault("v--v", -1);
        fault("v+-!v", -1);
        fault("v<p<q", 3);
        fault("(v<p)<q", -1);
        fault("v<(p<q)", -1);
        fault("v<p|v<q", -1);
        fault("v<p&v=q", -1);
        fault("v&&q", 2);
        fault("(v", 2);
        fault("(v;", 2);
        fault("(v?q)", 2);
        fault("v)", 1);
        fault("()", 1);
        fault("v?q", -1);
        fault("v?", 2);
        fault("?v", 0);
        fault("v?q?s", 3);
        fault("v?((((((q))))))", -1);
        fault("v?(((((((q", 8);
        fault("((((((v))))))?!!!!!!!q", 20);
        fault("v;q", -1);
        fault("v;", 2);
        fault(";v", 0);
        fault("v;;q", 2);
        fault("v?q;p?s;i", -1);
        fault("v q", 1);
        fault("v\u00f8", 1);
        fault("((((((v))))))", -1);
        fault("(((((((v)))))))", 6);
        fault("!!!!!!v", -1);
        fault("!!!!!!!v", 6);
        fault("------v", -1);
        fault("-------v", 6);
        fault("-!(-!(v", 7);
        fault("-!(-!(-v", 6);
        fault("!!!!!!v+!!!!!!v", -1);
        fault("(((((-v)))))-((((((v))))))", -1);
        fault("((((((v-(", 8);
        fault("((((((v)))-!(v", 14);
        fault("((((((v)))-!(-", 14);
        fault("((((((v)))-!(--", 14);
        StringBuilder longest = new StringBuilder("v");
        while (longest.length() < 119) longest.append(longest.length() % 2 == 1 ? ";" : "v");
        fault(longest.toString(), -1);
        fault(longest + ";", 120);
    }

    private static void full() {
        TurnsOneWay x = new TurnsOneWay();
        for (int i = 0; i < 4; i++) due("7: floor", Check.floor(x, "v"), i);
        due("7: the fifth", Check.floor(x, "v"), -3);
        due("7: the tape stays", x.count(3), 1);
        due("39: floors", x.count(1), 4);
        due("3: no STONE", x.stone(), -100);
        due("3: and the tape is empty", x.count(3), 0);
    }

    private static void names() {
        takes("w+1", 1, 2, 3);
        takes("v", 20, 500, 7);
        takes("v/2", 10, 250, 3);
        takes("s/10", 2, 2, 2);
        takes("p/100", 5, 5, 5);
        takes("q-1", 6, 6, 6);
        takes("i", 1, 1, 1);
        takes("0", 0, 0, 0);
        takes("9999", 20, 500, 7);
        takes("-5", 0, 0, 0);
        takes("(v+p)/40", 13, 25, 7);
    }

    private static void signs() {
        takes("1+2*3", 7, 7, 7);
        takes("(1+2)*2", 6, 6, 6);
        takes("9-3-2", 4, 4, 4);
        takes("20/3/2", 3, 3, 3);
        takes("7-20%7*1", 1, 1, 1);
        takes("-7/2+5", 2, 2, 2);
        takes("-7%4+5", 2, 2, 2);
        takes("5/0+1", 1, 1, 1);
        takes("5%0+2", 2, 2, 2);
        takes("!5+!0", 1, 1, 1);
        takes("!!5", 1, 1, 1);
        takes("--5", 5, 5, 5);
        takes("-!0+4", 3, 3, 3);
        takes("5|0", 1, 1, 1);
        takes("0|0", 0, 0, 0);
        takes("5&6", 1, 1, 1);
        takes("5&0", 0, 0, 0);
        takes("1|0&0", 1, 1, 1);
        takes("v<21", 1, 0, 1);
        takes("v=20", 1, 0, 0);
        takes("v>19", 1, 1, 0);
        takes("2+(3>2)*4", 6, 6, 6);
        takes("1+1<1+2", 1, 1, 1);
        takes("4|0<1", 1, 1, 1);
        takes("(4)", 4, 4, 4);
    }

    private static void lines() {
        takes("w=1?300;2", 2, 300, 2);
        takes("w=0?3;w=1?4;w=2?5", 3, 4, 5);
        takes("w=1?3", 0, 3, 0);
        takes("-1?3;4", 3, 3, 3);
        takes("0?3;0?4;5;6", 5, 5, 5);
        takes("2;1?3", 2, 2, 2);
        takes("w?0;w=0?6", 6, 0, 0);
    }

    private static void wraps() {
        // the most parts: 60 names, each with a sign ahead. v 30 times, less v 29 times and i
        takes("-i" + "+v-v".repeat(29) + "+v", 19, 499, 6);
        // 9999 to the third is 233 times 2 to the 32nd, less 1027349969
        takes("9999*9999*9999", 0, 0, 0);
        takes("9999*9999*9999/-1000/1000-1026", 1, 1, 1);
        takes("4096*4096*256=0", 1, 1, 1);
        takes("4096*4096*128<0", 1, 1, 1);
        takes("4096*4096*128/-1=4096*4096*128", 1, 1, 1);
        takes("4096*4096*128%-1+3", 3, 3, 3);
        takes("-(4096*4096*128)<0", 1, 1, 1);
    }
}
