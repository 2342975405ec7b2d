import java.util.ArrayList;
import java.util.List;
import java.util.Random;

/** Runs of up to 512 calls on new objects, each call answered by the class and by Plain alike. */
public final class RandomRunsTest {
    private static final int[] EDGES = {Integer.MIN_VALUE, Integer.MIN_VALUE + 1, -100000, -2, -1, 0, 1, 2,
        9, 10, 59, 60, 61, 400, 401, 999, 1000, 9999, 10000, 999999, 1000000, Integer.MAX_VALUE - 1, Integer.MAX_VALUE};

    private final Random random;
    private final TurnsOneWay real = new TurnsOneWay();
    private final Plain plain = new Plain();
    private final List<String> calls = new ArrayList<>();
    private boolean wrong;

    private RandomRunsTest(long seed) { random = new Random(seed); }

    public static void main(String[] args) {
        int runs = args.length > 0 ? Integer.parseInt(args[0]) : 400;
        int wrong = 0;
        for (int seed = 0; seed < runs && wrong < 5; seed++) {
            RandomRunsTest test = new RandomRunsTest(seed);
            if (!test.go()) {
                wrong++;
                List<String> calls = test.calls;
                System.out.println("seed " + seed + ": " + calls.subList(Math.max(0, calls.size() - 12), calls.size()));
            }
        }
        if (wrong > 0) System.exit(1);
    }

    private boolean go() {
        int most = 100 + random.nextInt(412);
        // a run leans to some kinds of call, so that it comes deep into them
        int lean = random.nextInt(5);
        while (calls.size() < most && !wrong) {
            int part = random.nextInt(3) == 0 ? random.nextInt(5) : lean;
            switch (part) {
                case 0: texts(); break;
                case 1: goings(); break;
                case 2: thoughts(); break;
                case 3: films(); break;
                default: shelves(); break;
            }
        }
        return !wrong;
    }

    private void due(String call, long got, long want) {
        calls.add(call + " -> " + got);
        if (got != want) {
            calls.add("due was " + want);
            wrong = true;
        }
    }

    // ---- arguments

    private int within(int least, int most) {
        int dice = random.nextInt(40);
        if (dice == 0) return EDGES[random.nextInt(EDGES.length)];
        if (dice == 1) return least - 1;
        if (dice == 2) return most + 1;
        if (dice == 3) return least;
        if (dice == 4) return most;
        return least + random.nextInt(most - least + 1);
    }

    private int stone() { return within(0, Math.max(0, plain.rocks.size() - 1)); }

    private int floorOrNone() { return random.nextInt(3) == 0 ? 9 : within(0, Math.max(0, plain.grounds.size() - 1)); }

    private int sf() {
        return random.nextInt(30) == 0 ? within(0, 59) : 10 * stone() + floorOrNone();
    }

    private int s() { return within(-999, 999); }

    private int pq() {
        int dice = random.nextInt(4);
        return dice == 0 ? within(0, 999999) : dice == 1 ? 0 : 1000 * random.nextInt(60) + random.nextInt(60);
    }

    private String number(int digits) {
        StringBuilder made = new StringBuilder();
        int n = 1 + random.nextInt(digits);
        for (int i = 0; i < n; i++) made.append((char) ('0' + random.nextInt(10)));
        return made.toString();
    }

    private String stoneText() {
        StringBuilder text = new StringBuilder();
        int lumps = random.nextInt(6) == 0 ? 10 + random.nextInt(4) : 1 + random.nextInt(5);
        // a stone that is long one way has screws in other places than the first
        boolean slanted = random.nextInt(3) == 0;
        int wide = random.nextInt(3) == 0 ? 2 : 10, high = random.nextInt(3) == 0 ? 2 : 10;
        for (int i = 0; i < lumps; i++) {
            text.append(i == 0 ? "" : ";").append(1 + random.nextInt(9));
            boolean left = random.nextBoolean();
            int out = random.nextInt(wide);
            text.append(left ? '-' : '+').append(out);
            text.append((slanted ? left : random.nextBoolean()) ? '+' : '-');
            text.append(slanted && random.nextInt(4) > 0 ? out : random.nextInt(high));
        }
        for (int i = 0; i < 4; i++) {
            text.append(i == 0 ? '/' : ',');
            if (i < 2 || random.nextInt(20) == 0) text.append(number(3));
            else text.append(random.nextInt(4) == 0 ? "100" : number(2));
        }
        return text.toString();
    }

    private String expression(int depth) {
        int dice = random.nextInt(depth > 5 ? 6 : 24);
        if (dice < 4) return "" + "wvspqi".charAt(random.nextInt(6));
        if (dice < 6) return number(random.nextInt(3) == 0 ? 4 : 2);
        if (dice == 6) return "(" + expression(depth + 1) + ")";
        if (dice == 7) return "!" + expression(depth + 1);
        if (dice == 8) return "-" + expression(depth + 1);
        String signs = dice < 11 ? "|&<=>" : "+-*/%/%";
        return expression(depth + 1) + signs.charAt(random.nextInt(signs.length())) + expression(depth + 1);
    }

    private String floorText() {
        StringBuilder text = new StringBuilder();
        int lines = 1 + random.nextInt(4);
        for (int i = 0; i < lines; i++) {
            text.append(i == 0 ? "" : ";");
            if (i < lines - 1 || random.nextInt(4) == 0) text.append(expression(2)).append('?');
            if (random.nextInt(3) == 0) text.append("v/").append(5 + random.nextInt(60)).append('+');
            text.append(expression(random.nextInt(5)));
        }
        return text.length() > 120 ? text.substring(0, 120) : text.toString();
    }

    private String harmed(String text) {
        if (random.nextInt(5) != 0 || text.isEmpty()) return text;
        int at = random.nextInt(text.length());
        String any = "0123456789+-*/%()!&|<=>?;,wvspqi z\u00e9\0";
        char sign = any.charAt(random.nextInt(any.length()));
        switch (random.nextInt(4)) {
            case 0: return text.substring(0, at);
            case 1: return text.substring(0, at) + sign + text.substring(at);
            case 2: return text.substring(0, at) + text.substring(at + 1);
            default: return text.substring(0, at) + sign + text.substring(at + 1);
        }
    }

    // ---- calls

    private void feed(String text) {
        for (int at = 0; at < text.length() && !wrong;) {
            int n = Math.min(text.length() - at, 1 + random.nextInt(8));
            n = Math.min(n, 4);
            int v = random.nextInt();
            for (int i = 0; i < n; i++) {
                v = v & ~(255 << 8 * i) | text.charAt(at + i) << 8 * i;
            }
            due("feed(" + n + "," + v + ")", real.feed(n, v), plain.feed(n, v));
            at += n;
        }
    }

    private void newStone() {
        feed(harmed(stoneText()));
        due("stone()", real.stone(), plain.stone());
    }

    private void newFloor() {
        feed(harmed(floorText()));
        due("floor()", real.floor(), plain.floor());
    }

    private void texts() {
        int a = stone(), b, c;
        switch (random.nextInt(12)) {
            case 0: newStone(); break;
            case 1: newFloor(); break;
            case 2: b = within(0, 9); due("of " + a + " " + b, real.of(a, b), plain.of(a, b)); break;
            case 3:
                b = within(0, 5);
                c = within(0, 2);
                due("lump " + a + " " + b + " " + c, real.lump(a, b, c), plain.lump(a, b, c));
                break;
            case 4: case 5: case 6: change(a); break;
            case 7: case 8: backAndForth(); break;
            case 9: b = within(-1, 1); due("grows " + a + " " + b, real.grows(a, b), plain.grows(a, b)); break;
            case 10: b = within(1, 4); c = random.nextInt(); due("feed " + b, real.feed(b, c), plain.feed(b, c)); break;
            default: b = within(0, 6); due("count " + b, real.count(b), plain.count(b)); break;
        }
    }

    private void backAndForth() {
        int n = random.nextInt(30) == 0 ? 45 : random.nextInt(4);
        for (int i = 0; i < n && !wrong; i++) due("undo", real.undo(), plain.undo());
        int m = random.nextInt(n + 1);
        for (int i = 0; i < m && !wrong; i++) due("redo", real.redo(), plain.redo());
    }

    private void change(int a) {
        int b = within(6, 13), c = b < 8 ? within(0, 999) : b < 10 ? within(0, 100) : within(1, 9);
        if (random.nextInt(4) == 0) c = b < 10 ? plain.of(a, b) : plain.lump(a, b - 10, 0);
        due("set " + a + " " + b + " " + c, real.set(a, b, c), plain.set(a, b, c));
    }

    private void ground() {
        if (plain.rocks.size() < 2 && random.nextInt(2) == 0) newStone();
        if (plain.grounds.size() < 2 && random.nextInt(2) == 0) newFloor();
    }

    private void goings() {
        ground();
        int a, b, c, d;
        switch (random.nextInt(6)) {
            case 0: case 1:
                a = sf();
                b = s();
                c = pq();
                d = random.nextInt(2) == 0 ? 400 : within(0, 400);
                due("roll " + a + " " + b + " " + c + " " + d, real.roll(a, b, c, d), plain.roll(a, b, c, d));
                break;
            case 2: case 3:
                a = within(-1, 400);
                b = within(0, 2);
                due("going " + a + " " + b, real.going(a, b), plain.going(a, b));
                break;
            case 4: a = within(-1, 3); due("back " + a, real.back(a), plain.back(a)); break;
            default: a = within(0, 4); due("told " + a, real.told(a), plain.told(a)); break;
        }
    }

    private void thoughts() {
        ground();
        int sf = sf(), st = stone(), s = s(), pq = pq(), a, b;
        switch (random.nextInt(7)) {
            case 0: a = within(0, 99); due("even", real.even(st, s, pq, a), plain.even(st, s, pq, a)); break;
            case 1:
                a = floorOrNone();
                b = within(0, 1);
                due("soonest", real.soonest(a, s, pq, b), plain.soonest(a, s, pq, b));
                break;
            case 2: a = within(1, 9); b = within(-9, 9); due("screws", real.screws(st, a, b), plain.screws(st, a, b)); break;
            case 3: a = within(-9, 9); due("lightest", real.lightest(st, a), plain.lightest(st, a)); break;
            case 4: due("seen " + sf + " " + s + " " + pq, real.seen(sf, s, pq), plain.seen(sf, s, pq)); break;
            case 5: due("pressed", real.pressed(sf, pq), plain.pressed(sf, pq)); break;
            default:
                a = random.nextInt();
                b = within(1, 20);
                due("hands " + sf + " " + a + " " + b, real.hands(sf, a, b), plain.hands(sf, a, b));
                break;
        }
    }

    private void films() {
        ground();
        int sf = sf(), pq = pq(), a, b, c;
        int latest = plain.film.isEmpty() ? 0 : plain.film.get(plain.film.size() - 1)[0];
        switch (random.nextInt(12)) {
            case 0: case 1: case 2:
                a = latest + random.nextInt(13) - 1;
                b = random.nextInt(4) == 0 ? within(-9999, 9999) : s();
                due("frame " + a + " " + b, real.frame(a, b), plain.frame(a, b));
                break;
            case 3: framesFromRow(latest); break;
            case 4: if (random.nextInt(6) == 0) due("cut", real.cut(), plain.cut()); break;
            case 5: case 6: a = within(-9, 9); due("off", real.off(sf, pq, a), plain.off(sf, pq, a)); break;
            case 7: a = within(0, 1); due("shape", real.shape(sf, pq, a), plain.shape(sf, pq, a)); break;
            case 8: a = within(0, 9999); due("span", real.span(sf, pq, a), plain.span(sf, pq, a)); break;
            case 9: a = stone(); due("which", real.which(a, pq), plain.which(a, pq)); break;
            case 10: change(stone()); break;
            default:
                b = within(1, 40);
                c = within(0, Math.max(0, Math.min(b, 40)));
                due("chance " + b + " " + c, real.chance(b, c), plain.chance(b, c));
                break;
        }
    }

    private void framesFromRow(int latest) {
        int sort = random.nextInt(8) == 0 ? within(0, 4) : 1, n = within(0, 14);
        due("row 0 " + sort + " " + n, real.row(0, sort, n), plain.row(0, sort, n));
        int tick = latest;
        for (int i = 0; i < n && i < 14 && !wrong; i++) {
            tick += i % 2 == 0 ? 1 + random.nextInt(9) : 0;
            long v = i % 2 == 0 && random.nextInt(20) != 0 ? tick : within(-9999, 9999);
            due("put 0 " + i + " " + v, real.put(0, i, v), plain.put(0, i, v));
        }
        int a = random.nextInt(8) == 0 ? within(0, 5) : 0, b = within(0, 3), c = within(1, 30);
        due("frames " + a + " " + b + " " + c, real.frames(a, b, c), plain.frames(a, b, c));
        if (random.nextInt(3) == 0) due("count 2", real.count(2), plain.count(2));
    }

    private void shelves() {
        int a = within(0, 5), b, c, d, e;
        int body = Math.max(0, plain.beings.size() - 1);
        switch (random.nextInt(14)) {
            case 0: case 1: b = within(0, 7); due("body " + b, real.body(b), plain.body(b)); break;
            case 2: case 3:
                b = within(0, body);
                c = within(0, 3);
                d = random.nextInt(3) == 0 ? random.nextInt() : within(-9, 9);
                due("act " + b + " " + c + " " + d, real.act(b, c, d), plain.act(b, c, d));
                for (int i = -1; i < 12 && !wrong; i++) due("trace " + i, real.trace(i), plain.trace(i));
                break;
            case 4: b = within(-1, body); due("keep " + a + " " + b, real.keep(a, b), plain.keep(a, b)); break;
            case 5: case 6:
                b = within(0, 4);
                c = random.nextInt(4) == 0 ? within(-3, 60) : random.nextInt(8);
                due("row " + a + " " + b + " " + c, real.row(a, b, c), plain.row(a, b, c));
                break;
            case 7: case 8:
                b = within(0, 7);
                long v = random.nextInt(3) == 0 ? random.nextLong() : EDGES[random.nextInt(EDGES.length)];
                due("put " + a + " " + b + " " + v, real.put(a, b, v), plain.put(a, b, v));
                break;
            case 9: b = within(0, 7); due("element " + a + " " + b, real.element(a, b), plain.element(a, b)); break;
            case 10: case 11:
                b = within(0, 5);
                c = random.nextInt(2) == 0 ? a : within(0, 5);
                d = within(0, 5);
                e = within(0, 5);
                due("shift " + a + " " + b + " " + c + " " + d + " " + e, real.shift(a, b, c, d, e), plain.shift(a, b, c, d, e));
                for (int i = 0; i < 8 && !wrong; i++) due("element " + c + " " + i, real.element(c, i), plain.element(c, i));
                break;
            case 12: b = within(0, 7); due("taken " + a + " " + b, real.taken(a, b), plain.taken(a, b)); break;
            default: b = within(0, 6); due("count " + b, real.count(b), plain.count(b)); break;
        }
    }
}
