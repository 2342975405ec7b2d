/** What the tests share: answers that are due, and texts that come to THE TAPE. */
final class Check {
    private int asked;
    private int wrong;

    void due(String what, long got, long want) {
        asked++;
        if (got != want) {
            wrong++;
            System.out.println(what + ": answered " + got + ", due is " + want);
        }
    }

    void close() {
        System.out.println(asked + " answers, " + wrong + " of them wrong");
        if (wrong > 0 || asked == 0) System.exit(1);
    }

    /** The text comes to THE TAPE, byte by byte. */
    static void feed(TurnsOneWay x, String text) {
        for (int i = 0; i < text.length(); i++) x.feed(1, text.charAt(i));
    }

    static int stone(TurnsOneWay x, String text) {
        feed(x, text);
        return x.stone();
    }

    static int floor(TurnsOneWay x, String text) {
        feed(x, text);
        return x.floor();
    }

    private static final String[] KEENS = {
        // KEEN 18 times 36 by 324 less 4, and 1; then 18 times 24 by 144 less 4, and 1
        "1+0+0", "1+9+1;1-9-1", "1+6+1;1-6-1"};

    /** An object with STONE 0 of KEEN 0, STONE 1 of KEEN 2 and STONE 2 of KEEN 3, of these A, B, C, D. */
    static TurnsOneWay ofThree(String rates) {
        TurnsOneWay x = new TurnsOneWay();
        for (String lumps : KEENS) stone(x, lumps + "/" + rates);
        return x;
    }
}
