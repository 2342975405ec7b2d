/** What the tests share: answers that are due, and texts that come to THE TAPE. */
final class Check {
    private int asked;
    private int wrong;
    private int sentences;
    private int askedOfSentence = 1;
    private String sentence = "";

    /** The coming answers belong to this sentence of the document: T1 to T5 its Terms, P1 to P39 its Promises. */
    void sentence(String words) {
        closeSentence();
        sentence = words;
        sentences++;
        askedOfSentence = 0;
    }

    private void closeSentence() {
        if (askedOfSentence == 0) {
            wrong++;
            System.out.println(sentence + ": nothing was asked");
        }
    }

    void due(String what, long got, long want) {
        asked++;
        askedOfSentence++;
        if (got != want) {
            wrong++;
            System.out.println((sentence.isEmpty() ? "" : sentence + " | ") + what + ": answered " + got + ", due is " + want);
        }
    }

    void close() {
        closeSentence();
        System.out.println((sentences > 0 ? sentences + " sentences, " : "") + asked + " answers, " + wrong + " of them wrong");
        if (wrong > 0 || asked == 0) System.exit(1);
    }

    /** The text comes to THE TAPE, byte by byte. */
    static void feed(TurnsOneWay x, String text) {
        for (int i = 0; i < text.length(); i++) x.feed(1, text.charAt(i));
    }

    static int stone(TurnsOneWay x, String text) {
        feed(x, text);
        return x.stone();
    }

    static int floor(TurnsOneWay x, String text) {
        feed(x, text);
        return x.floor();
    }

    /** By KEEN: x, y of a LUMP whose fellow stands at -x, -y. */
    private static final int[][] SLANTS = {{0, 0}, {}, {1, 9}, {1, 5}, {1, 4}, {2, 7}, {1, 3}, {3, 8}, {2, 5}, {1, 1}};

    /** The LUMPS of a STONE of this KEEN. */
    static String lumpsOfKeen(int k) {
        if (k == 1) return "1-6+9;1-7-9";
        if (k == -1) return "1+9-4;1-9-3";
        int x = SLANTS[Math.abs(k)][0], y = SLANTS[Math.abs(k)][1];
        return k < 0 ? "1+" + x + "-" + y + ";1-" + x + "+" + y : "1+" + x + "+" + y + ";1-" + x + "-" + y;
    }

    /** An object with STONE 0 of this KEEN and of these A, B, C, D. */
    static TurnsOneWay ofKeen(int k, String rates) {
        TurnsOneWay x = new TurnsOneWay();
        stone(x, lumpsOfKeen(k) + "/" + rates);
        return x;
    }

    private static final String[] KEENS = {
        // KEEN 18 times 36 by 324 less 4, and 1; then 18 times 24 by 144 less 4, and 1
        "1+0+0", "1+9+1;1-9-1", "1+6+1;1-6-1"};

    /** An object with STONE 0 of KEEN 0, STONE 1 of KEEN 2 and STONE 2 of KEEN 3, of these A, B, C, D. */
    static TurnsOneWay ofThree(String rates) {
        TurnsOneWay x = new TurnsOneWay();
        for (String lumps : KEENS) stone(x, lumps + "/" + rates);
        return x;
    }
}
