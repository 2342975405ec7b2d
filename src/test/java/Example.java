/** How the class is used. What a line prints stands behind it; README.md shows this file as it is. */
public final class Example {
    public static void main(String[] args) {
        TurnsOneWay x = new TurnsOneWay();

        // a stone and two floors, as texts that come by the tape
        feed(x, "1+9+1;1-9-1/0,0,100,10");
        say(x.stone());                         // 0
        say(x.of(0, 5));                        // 2
        feed(x, "v/3");
        say(x.floor());                         // 0
        feed(x, "w=0?(v+9)/10;i>1?p/2");
        say(x.floor());                         // 1
        feed(x, "v/3)");
        say(x.floor());                         // -103

        // a going of 3 ticks without a floor (9), from s 10, p 200, q 990
        say(x.roll(9, 10, 200990, 3));          // 78
        say(x.back(-1));                        // 2
        say(x.back(0));                         // 1
        say(x.going(1, 2));                     // 891

        // in thought: which stone turns back first on floor 1, when; how small a keen does
        say(x.soonest(1, 10, 200990, 0));       // 0
        say(x.soonest(1, 10, 200990, 1));       // 1
        say(x.seen(1, 10, 200990));             // 1

        // a number becomes another, and what it was again
        say(x.set(0, 9, 20));                   // 10
        say(x.undo());                          // 0
        say(x.of(0, 9));                        // 10

        // a film by a row of shorts: tick 5, turn 10; tick 6, turn -91; which keen, which floor fits it best
        say(x.row(0, 1, 4));                    // 1
        x.put(0, 0, 5);
        x.put(0, 1, 10);
        x.put(0, 2, 6);
        x.put(0, 3, -91);
        say(x.frames(0, 0, 2));                 // 2
        say(x.off(9, 200990, 2));               // 0
        say(x.shape(9, 200990, 0));             // 1
        say(x.which(0, 200990));                // 1

        // a body of a kind, one of its acts, and the bodies of acts that ran
        say(x.body(2));                         // 0
        say(x.act(0, 1, 5));                    // -10
        say(x.trace(0));                        // 30
        say(x.count(6));                        // 3
    }

    /** A text comes to the tape, byte by byte; it may come by up to four bytes a call. */
    private static void feed(TurnsOneWay x, String text) {
        for (int i = 0; i < text.length(); i++) x.feed(1, text.charAt(i));
    }

    private static void say(int answer) {
        System.out.println(answer);
    }
}
