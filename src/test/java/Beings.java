import java.util.List;

/** The KINDS of BODIES as Java's own classes, whose machine finds the bodies of acts. */
final class Beings {
    static final List<Class<? extends Going>> CLASSES = List.of(Going.class, Kept.class, Turned.class,
        Rattled.class, Twice.class, Slow.class, Dead.class, Slid.class);

    interface Rolls {
        int number();
        void began(int body);
        default int rolls(int x) { began(1); return x + number(); }
    }

    interface Tells {
        int trades(int x);
        int ends(int x);
        void began(int body);
        default int tells(int x) { began(2); return trades(x) - ends(1); }
    }

    static class Going implements Rolls, Tells {
        int kind;
        private int number;
        private List<Integer> trace;
        public int number() { return number; }
        public void began(int body) { trace.add(body); }
        public int trades(int x) { began(10); return rolls(x) * 2; }
        public int ends(int x) { began(11); return x ^ number; }
    }

    static class Kept extends Going {
        @Override public int rolls(int x) { began(20); return super.rolls(x) + 3; }
    }

    static class Turned extends Going {
        @Override public int trades(int x) { began(30); return -super.trades(x); }
    }

    static class Rattled extends Turned {
        @Override public int ends(int x) { began(40); return super.ends(x) * 3; }
        @Override public int trades(int x) { began(41); return super.trades(x + 1); }
    }

    static class Twice extends Turned {
        @Override public int tells(int x) { began(50); return super.tells(x) ^ 5; }
    }

    static class Slow extends Kept {
        @Override public int rolls(int x) { began(60); return super.rolls(x) * 2; }
        @Override public int ends(int x) { began(61); return super.ends(x) + rolls(1); }
    }

    static class Dead extends Going {
        @Override public int ends(int x) { began(70); return super.ends(x) - 1; }
    }

    static class Slid extends Dead {
        @Override public int trades(int x) { began(80); return super.trades(x) + ends(2); }
        @Override public int tells(int x) { began(81); return super.tells(x) - rolls(1); }
    }

    static Going of(int kind, int number, List<Integer> trace) {
        Going made = kind == 0 ? new Going() : kind == 1 ? new Kept() : kind == 2 ? new Turned()
            : kind == 3 ? new Rattled() : kind == 4 ? new Twice() : kind == 5 ? new Slow()
            : kind == 6 ? new Dead() : new Slid();
        made.kind = kind;
        made.number = number;
        made.trace = trace;
        return made;
    }

    private Beings() { }
}
