/**
 * A stone that turns one way: stones of lumps and floors told as texts, goings tick by tick,
 * films, found stones, bodies that act, and shelves of the host.
 *
 * <p>All rows are made in the constructors and used again: no call makes an object.
 */
public final class TurnsOneWay {
    public static final int BAD = -1, NOT = -2, FULL = -3, STATE = -5, VOID = -2000000000;

    private static final int NOTHING = -11, UNLIKE = -12, NO_PLACE = -13, NO_SIZE = -14;
    private static final int MOST_STONES = 6, MOST_FLOORS = 4, MOST_SHELVES = 6;
    private static final int NO_FLOOR = 9, MOST_KEEN = 9, MOST_WEIGHT = 9, MOST_TICKS = 400;
    private static final int MOST_FOUND = 40, MOST_HANDS = 20;

    private final Tape tape = new Tape();
    private final Stone[] stones = new Stone[MOST_STONES];
    private final Floor[] floors = new Floor[MOST_FLOORS];
    private final Shelf[] shelves = new Shelf[MOST_SHELVES];
    private final Motion motion = new Motion();
    private final Going kept = new Going();
    private final Film film = new Film();
    private final Changes changes = new Changes();
    private final Bodies bodies = new Bodies();
    private int stoneCount;
    private int floorCount;

    public TurnsOneWay() {
        for (int i = 0; i < stones.length; i++) {
            stones[i] = new Stone();
        }
        for (int i = 0; i < floors.length; i++) {
            floors[i] = new Floor();
        }
        for (int i = 0; i < shelves.length; i++) {
            shelves[i] = new Shelf();
        }
    }

    // ---- stones, floors

    public int feed(int n, int v) {
        if (!isWithin(n, 1, 4)) {
            return BAD;
        }
        if (tape.length + n > Tape.MOST) {
            return FULL;
        }
        for (int i = 0; i < n; i++) {
            tape.append(v >>> (8 * i));
        }
        return tape.length;
    }

    public int stone() {
        if (stoneCount < 0 || stoneCount >= stones.length || stones[stoneCount] == null) {
            return FULL;
        }
        tape.rewind();
        int answer = -100;
        if (stones[stoneCount].readFrom(tape)) {
            answer = stoneCount;
            stoneCount++;
        } else {
            answer -= tape.at;
        }
        tape.clear();
        return answer;
    }

    public int of(int stone, int what) {
        Stone told = stoneAt(stone);
        return told == null || !isWithin(what, 0, 9) ? VOID : told.measure(what);
    }

    public int lump(int stone, int i, int what) {
        Stone told = stoneAt(stone);
        if (told == null || !isWithin(i, 0, told.lumps - 1) || !isWithin(what, 0, 2)) {
            return VOID;
        }
        return told.lumpPart(i, what);
    }

    public int set(int stone, int what, int v) {
        Stone told = stoneAt(stone);
        if (told == null || !told.mayBecome(what, v)) {
            return BAD;
        }
        int was = told.change(what, v);
        // a number that stays as it was is no CHANGE: what may be DONE AGAIN stays, too
        if (was != v) {
            changes.note(stone, what, was, v);
        }
        return was;
    }

    public int floor() {
        if (floorCount < 0 || floorCount >= floors.length || floors[floorCount] == null) {
            return FULL;
        }
        tape.rewind();
        int answer = -100;
        if (floors[floorCount].readFrom(tape)) {
            answer = floorCount;
            floorCount++;
        } else {
            answer -= tape.at;
        }
        tape.clear();
        return answer;
    }

    public int grows(int stone, int side) {
        Stone told = stoneAt(stone);
        if (told == null || (side != 1 && side != -1)) {
            return BAD;
        }
        int u = told.keen() * side;
        return u == 0 ? 0 : u > 0 ? 1 : 2;
    }

    // ---- goings

    public int roll(int sf, int s, int pq, int n) {
        if (!isGround(sf) || !isStart(s, pq) || !isWithin(n, 0, MOST_TICKS)) {
            return VOID;
        }
        layOwn(sf);
        start(s, pq);
        kept.record(motion, n);
        return motion.s;
    }

    public int going(int tick, int what) {
        if (tick == -1) {
            return kept.isThere() && what == 0 ? kept.last : VOID;
        }
        if (!isWithin(tick, 0, kept.last) || !isWithin(what, 0, 2)) {
            return VOID;
        }
        return kept.at(tick, what);
    }

    public int back(int i) {
        if (i < -1) {
            return BAD;
        }
        if (!kept.isThere()) {
            return STATE;
        }
        return i == -1 ? kept.backs : kept.backTick(i);
    }

    public int told(int what) {
        return !kept.isThere() || !isWithin(what, 0, 4) ? VOID : kept.summary(what);
    }

    // ---- in thought

    public int even(int stone, int s, int pq, int c) {
        Stone told = stoneAt(stone);
        if (told == null || !isStart(s, pq) || !isWithin(c, 0, 99)) {
            return BAD;
        }
        motion.rule(told, told.keen(), null);
        motion.percent = c;
        start(s, pq);
        motion.run(MOST_TICKS);
        return motion.backs;
    }

    public int soonest(int floor, int s, int pq, int what) {
        if (!isFloorOrNone(floor) || !isStart(s, pq) || !isWithin(what, 0, 1)) {
            return BAD;
        }
        int best = NOT;
        int least = NOT;
        for (int i = 0; i < stoneCount; i++) {
            layOwn(10 * i + floor);
            int tick = firstBack(s, pq);
            if (tick > 0 && (best < 0 || tick < least)) {
                best = i;
                least = tick;
            }
        }
        return what == 0 ? best : least;
    }

    public int screws(int stone, int m, int v) {
        Stone told = stoneAt(stone);
        if (told == null || !isWithin(m, 1, MOST_WEIGHT) || !isKeen(v)) {
            return BAD;
        }
        return told.screwPlace(m, v);
    }

    public int lightest(int stone, int v) {
        Stone told = stoneAt(stone);
        if (told == null || !isKeen(v)) {
            return BAD;
        }
        for (int m = 1; m <= MOST_WEIGHT; m++) {
            if (told.screwPlace(m, v) >= 0) {
                return m;
            }
        }
        return NOT;
    }

    public int seen(int sf, int s, int pq) {
        if (!isGround(sf) || !isStart(s, pq)) {
            return BAD;
        }
        for (int k = 1; k <= MOST_KEEN; k++) {
            lay(sf, k);
            if (firstBack(s, pq) > 0) {
                return k;
            }
        }
        return NOT;
    }

    public int pressed(int sf, int pq) {
        if (!isGround(sf) || !isStart(0, pq)) {
            return VOID;
        }
        layOwn(sf);
        start(0, pq);
        motion.run(MOST_TICKS);
        return motion.turned;
    }

    public int hands(int sf, int seed, int n) {
        if (!isGround(sf) || !isWithin(n, 1, MOST_HANDS)) {
            return BAD;
        }
        layOwn(sf);
        int z = seed;
        int turning = 0;
        for (int i = 0; i < n; i++) {
            z = drawn(z);
            int s = (z >>> 8) % 1001 - 500;
            z = drawn(z);
            int p = (z >>> 8) % 50;
            z = drawn(z);
            int q = (z >>> 8) % 50;
            if (firstBack(s, 1000 * p + q) > 0) {
                turning++;
            }
        }
        return turning;
    }

    // ---- films, found stones

    public int frame(int tick, int s) {
        if (!film.mayCome(tick, s)) {
            return BAD;
        }
        return film.append(tick, s) ? film.length - 1 : FULL;
    }

    public int frames(int shelf, int i, int n) {
        Shelf from = shelfAt(shelf);
        if (from == null || !isWithin(n, 1, 30)) {
            return BAD;
        }
        if (!from.isEmpty() && !from.isRowOf(Shelf.SHORTS)) {
            return UNLIKE;
        }
        return from.isEmpty() || i < 0 ? 0 : film.takeFrom(from, i, n);
    }

    public int cut() {
        int had = film.length;
        film.length = 0;
        return had;
    }

    public int off(int sf, int pq, int k) {
        if (!isGround(sf) || !isStart(0, pq) || !isKeen(k)) {
            return BAD;
        }
        return film.length == 0 ? STATE : offBy(sf, pq, k);
    }

    public int shape(int sf, int pq, int what) {
        if (!isGround(sf) || !isStart(0, pq) || !isWithin(what, 0, 1)) {
            return VOID;
        }
        if (film.length == 0) {
            return STATE;
        }
        int best = -MOST_KEEN;
        int least = offBy(sf, pq, best);
        for (int k = best + 1; k <= MOST_KEEN; k++) {
            int off = offBy(sf, pq, k);
            if (off < least) {
                best = k;
                least = off;
            }
        }
        return what == 0 ? best : least;
    }

    public int span(int sf, int pq, int bound) {
        if (!isGround(sf) || !isStart(0, pq) || bound < 0) {
            return BAD;
        }
        if (film.length == 0) {
            return STATE;
        }
        int fitting = 0;
        for (int k = -MOST_KEEN; k <= MOST_KEEN; k++) {
            if (offBy(sf, pq, k) <= bound) {
                fitting++;
            }
        }
        return fitting;
    }

    public int which(int stone, int pq) {
        Stone told = stoneAt(stone);
        if (told == null || !isStart(0, pq)) {
            return BAD;
        }
        if (film.length == 0 || floorCount == 0) {
            return STATE;
        }
        int keen = told.keen();
        int best = 0;
        int least = offBy(10 * stone, pq, keen);
        for (int i = 1; i < floorCount; i++) {
            int off = offBy(10 * stone + i, pq, keen);
            if (off < least) {
                best = i;
                least = off;
            }
        }
        return best;
    }

    public int chance(int n, int m) {
        if (!isWithin(n, 1, MOST_FOUND) || !isWithin(m, 0, n)) {
            return BAD;
        }
        int greater = Math.max(m, n - m);
        long ways = 0;
        long choices = 1;
        for (int left = 0; left <= n; left++) {
            if (Math.max(left, n - left) >= greater) {
                ways += choices;
            }
            choices = choices * (n - left) / (left + 1);
        }
        return (int) (ways * 1000 / (1L << n));
    }

    public int undo() {
        if (changes.done == 0) {
            return STATE;
        }
        changes.done--;
        changeTo(Changes.WAS);
        return changes.done;
    }

    public int redo() {
        if (changes.done == changes.all) {
            return STATE;
        }
        changeTo(Changes.BECAME);
        changes.done++;
        return changes.all - changes.done;
    }

    // ---- acts, shelves

    public int body(int kind) {
        if (!isWithin(kind, 0, Bodies.MOST_KIND)) {
            return BAD;
        }
        return bodies.append(kind) ? bodies.length - 1 : FULL;
    }

    public int act(int body, int act, int x) {
        return bodies.perform(body, act, x);
    }

    public int trace(int i) {
        return bodies.traced(i);
    }

    public int keep(int shelf, int body) {
        Shelf on = shelfAt(shelf);
        if (on == null || !isWithin(body, -1, bodies.length - 1)) {
            return BAD;
        }
        on.hold(body);
        return 1;
    }

    public int row(int shelf, int sort, int n) {
        Shelf on = shelfAt(shelf);
        if (on == null || !isWithin(sort, 0, Shelf.MOST_SORT) || n > Shelf.MOST) {
            return BAD;
        }
        if (n < 0) {
            return NO_SIZE;
        }
        on.holdRow(sort, n);
        return 1;
    }

    public int put(int shelf, int i, long v) {
        Shelf on = shelfAt(shelf);
        int refusal = on == null ? BAD : on.refusal(i);
        if (on == null || refusal != 0) {
            return refusal;
        }
        on.write(i, v);
        return 1;
    }

    public long element(int shelf, int i) {
        Shelf on = shelfAt(shelf);
        return on == null || on.refusal(i) != 0 ? Long.MIN_VALUE : on.read(i);
    }

    public int shift(int shelf, int i, int other, int j, int n) {
        Shelf from = shelfAt(shelf);
        Shelf to = shelfAt(other);
        if (from == null || to == null) {
            return BAD;
        }
        if (from.isEmpty() || to.isEmpty()) {
            return NOTHING;
        }
        if (!from.isRow() || !to.isRowOf(from.sort)) {
            return UNLIKE;
        }
        if (!from.hasPlaces(i, n) || !to.hasPlaces(j, n)) {
            return NO_PLACE;
        }
        System.arraycopy(from.elements, i, to.elements, j, n);
        return n;
    }

    public int taken(int shelf, int k) {
        Shelf on = shelfAt(shelf);
        if (on == null || !isWithin(k, 0, Bodies.MOST_KIND)) {
            return BAD;
        }
        if (on.isEmpty()) {
            return NOTHING;
        }
        int kind = bodies.kindOf(on.body);
        return Bodies.isUnder(kind, k) ? kind : UNLIKE;
    }

    public int count(int what) {
        switch (what) {
            case 0: return stoneCount;
            case 1: return floorCount;
            case 2: return film.length;
            case 3: return tape.length;
            case 4: return changes.done;
            case 5: return bodies.length;
            case 6: return bodies.ran;
            default: return BAD;
        }
    }

    // ---- what several calls share

    private static boolean isWithin(int v, int least, int most) {
        return v >= least && v <= most;
    }

    private static boolean isKeen(int k) {
        return isWithin(k, -MOST_KEEN, MOST_KEEN);
    }

    private static boolean isStart(int s, int pq) {
        return isWithin(s, -999, 999) && isWithin(pq, 0, 999999);
    }

    private static int drawn(int z) {
        return z * 1103515245 + 12345;
    }

    private Stone stoneAt(int i) {
        return isWithin(i, 0, stoneCount - 1) && i < stones.length ? stones[i] : null;
    }

    private Floor floorAt(int i) {
        return isWithin(i, 0, floorCount - 1) && i < floors.length ? floors[i] : null;
    }

    private Shelf shelfAt(int i) {
        return isWithin(i, 0, shelves.length - 1) ? shelves[i] : null;
    }

    private boolean isFloorOrNone(int floor) {
        return floor == NO_FLOOR || floorAt(floor) != null;
    }

    private boolean isGround(int sf) {
        return sf >= 0 && stoneAt(sf / 10) != null && isFloorOrNone(sf % 10);
    }

    /** The coming GOINGS are those of sf's STONE, taken as of KEEN k, on sf's FLOOR. */
    private void lay(int sf, int k) {
        Stone stone = stoneAt(sf / 10);
        if (stone != null) {
            motion.rule(stone, k, floorAt(sf % 10));
        }
    }

    private void layOwn(int sf) {
        Stone stone = stoneAt(sf / 10);
        if (stone != null) {
            lay(sf, stone.keen());
        }
    }

    private void start(int s, int pq) {
        motion.start(s, pq / 1000, pq % 1000, 0);
    }

    /** The first TICK at which a GOING from this START TURNS BACK; 0: none. */
    private int firstBack(int s, int pq) {
        start(s, pq);
        for (int i = 0; i < MOST_TICKS && motion.backs == 0; i++) {
            motion.step();
        }
        return motion.backs == 0 ? 0 : motion.tick;
    }

    /** OFF; the START stands at the first FRAME's TICK, and the TICKS go on from there. */
    private int offBy(int sf, int pq, int k) {
        lay(sf, k);
        motion.start(film.turnAt(0), pq / 1000, pq % 1000, film.tickAt(0));
        int off = 0;
        for (int i = 1; i < film.length; i++) {
            for (int left = film.tickAt(i) - motion.tick; left > 0; left--) {
                motion.step();
            }
            off += Math.abs(motion.s - film.turnAt(i));
        }
        return off;
    }

    /** The change at the place that changes.done tells gets its older or its newer number. */
    private void changeTo(int part) {
        Stone stone = stoneAt(changes.part(changes.done, Changes.STONE));
        if (stone != null) {
            stone.change(changes.part(changes.done, Changes.WHAT), changes.part(changes.done, part));
        }
    }

    /** THE TAPE: bytes as they came, and the place up to which they are read. */
    private static final class Tape {
        static final int MOST = 120;

        private final byte[] bytes = new byte[MOST];
        private int length;
        private int at;

        void append(int b) {
            if (length >= 0 && length < bytes.length) {
                bytes[length] = (byte) b;
                length++;
            }
        }

        void clear() {
            length = 0;
            at = 0;
        }

        void rewind() {
            at = 0;
        }

        boolean isAtEnd() {
            return at == length;
        }

        /** The byte at the place; -1 at the end. */
        int here() {
            return at >= 0 && at < length && at < bytes.length ? bytes[at] & 255 : -1;
        }

        boolean skip(int sign) {
            if (here() != sign) {
                return false;
            }
            at++;
            return true;
        }

        /** A digit of least .. 9 is read; -1, and the place stays: there is none. */
        int digit(int least) {
            int b = here();
            if (b < '0' + least || b > '9') {
                return -1;
            }
            at++;
            return b - '0';
        }

        /** A number of 1 to most digits is read; -1: there is none. */
        int number(int most) {
            int number = digit(0);
            boolean goesOn = number >= 0;
            for (int i = 1; i < most && goesOn; i++) {
                int digit = digit(0);
                goesOn = digit >= 0;
                if (goesOn) {
                    number = 10 * number + digit;
                }
            }
            return number;
        }
    }

    /** A STONE: its LUMPS, and A, B, C, D. */
    private static final class Stone {
        private static final int MOST_LUMPS = 12, FIRST_RATE = 6, FIRST_LUMP = 10;

        private final int[] weights = new int[MOST_LUMPS];
        private final int[] xs = new int[MOST_LUMPS];
        private final int[] ys = new int[MOST_LUMPS];
        private final int[] rates = new int[4];
        private int lumps;
        private int sum, sumX, sumY, sumXX, sumYY, sumXY;

        /** False: the text is none of a STONE, and the tape's place is the FAULT. */
        boolean readFrom(Tape tape) {
            lumps = 0;
            boolean more = true;
            for (int i = 0; i < MOST_LUMPS && more; i++) {
                if (!readLump(tape, i)) {
                    return false;
                }
                lumps = i + 1;
                more = lumps < MOST_LUMPS && tape.skip(';');
            }
            int sign = '/';
            for (int i = 0; i < rates.length; i++) {
                if (!tape.skip(sign) || !readRate(tape, i)) {
                    return false;
                }
                sign = ',';
            }
            weigh();
            return tape.isAtEnd();
        }

        private boolean readLump(Tape tape, int i) {
            int weight = tape.digit(1);
            if (weight < 0 || i < 0 || i >= weights.length) {
                return false;
            }
            weights[i] = weight;
            return readSigned(tape, xs, i) && readSigned(tape, ys, i);
        }

        private static boolean readSigned(Tape tape, int[] to, int i) {
            boolean minus = tape.skip('-');
            if (!minus && !tape.skip('+')) {
                return false;
            }
            int digit = tape.digit(0);
            if (digit < 0 || i < 0 || i >= to.length) {
                return false;
            }
            to[i] = minus ? -digit : digit;
            return true;
        }

        private boolean readRate(Tape tape, int i) {
            int first = tape.at;
            int rate = tape.number(3);
            if (rate < 0 || i < 0 || i >= rates.length) {
                return false;
            }
            if (rate > mostRate(i)) {
                // the FAULT is where the number begins, not where it grew too great
                tape.at = first;
                return false;
            }
            rates[i] = rate;
            return true;
        }

        private static int mostRate(int i) {
            return i < 2 ? 999 : 100;
        }

        private void weigh() {
            sum = 0;
            sumX = 0;
            sumY = 0;
            sumXX = 0;
            sumYY = 0;
            sumXY = 0;
            for (int i = 0; i < lumps && i < MOST_LUMPS; i++) {
                int weight = weights[i];
                int x = xs[i];
                int y = ys[i];
                sum += weight;
                sumX += weight * x;
                sumY += weight * y;
                sumXX += weight * x * x;
                sumYY += weight * y * y;
                sumXY += weight * x * y;
            }
        }

        int keen() {
            return keenWith(0, 0, 0);
        }

        /** KEEN with two weights m at x, y and at -x, -y: they leave sumX and sumY as they are. */
        private int keenWith(int m, int x, int y) {
            int all = sum + 2 * m;
            int xx = all * (sumXX + 2 * m * x * x) - sumX * sumX;
            int yy = all * (sumYY + 2 * m * y * y) - sumY * sumY;
            int xy = all * (sumXY + 2 * m * x * y) - sumX * sumY;
            int keen = 18 * xy / (Math.abs(xx - yy) + 1);
            return Math.max(-MOST_KEEN, Math.min(MOST_KEEN, keen));
        }

        /** The first place of two weights m with which KEEN is v or more, as SCREWS tells it. */
        int screwPlace(int m, int v) {
            for (int x = -9; x <= 9; x++) {
                for (int y = -9; y <= 9; y++) {
                    if (keenWith(m, x, y) >= v) {
                        return 100 * (x + 9) + y + 9;
                    }
                }
            }
            return NOT;
        }

        int rate(int i) {
            return i >= 0 && i < rates.length ? rates[i] : 0;
        }

        int measure(int what) {
            switch (what) {
                case 0: return lumps;
                case 1: return sum;
                case 2: return sum * sumXX - sumX * sumX;
                case 3: return sum * sumYY - sumY * sumY;
                case 4: return sum * sumXY - sumX * sumY;
                case 5: return keen();
                default: return rate(what - FIRST_RATE);
            }
        }

        int lumpPart(int i, int what) {
            if (i < 0 || i >= MOST_LUMPS) {
                return VOID;
            }
            return what == 0 ? weights[i] : what == 1 ? xs[i] : ys[i];
        }

        private static boolean isRate(int what) {
            return what >= FIRST_RATE && what < FIRST_LUMP;
        }

        boolean mayBecome(int what, int v) {
            if (isRate(what)) {
                return v >= 0 && v <= mostRate(what - FIRST_RATE);
            }
            return what >= FIRST_LUMP && what - FIRST_LUMP < lumps && v >= 1 && v <= MOST_WEIGHT;
        }

        /** A number of the STONE becomes v: what it was. */
        int change(int what, int v) {
            int was = 0;
            int i = what - (isRate(what) ? FIRST_RATE : FIRST_LUMP);
            if (isRate(what) && i < rates.length) {
                was = rates[i];
                rates[i] = v;
            } else if (i >= 0 && i < weights.length) {
                was = weights[i];
                weights[i] = v;
                weigh();
            }
            return was;
        }
    }

    /**
     * A FLOOR: its text as parts in a row, each behind those that it joins, so that one walk
     * works them all out. A part's code is the byte that stands in the text, or one of the
     * small numbers below.
     */
    private static final class Floor {
        private static final int NUMBER = 1, NEGATED = 2, CONDITION = 3, LINE_END = 4;
        private static final int EITHER = 0, BOTH = 1, COMPARED = 2, SUM = 3, PRODUCT = 4;
        private static final int MOST_OPEN = 6, NONE = -1;
        // each byte gives one part at most, and the last LINE's end one more
        private static final int MOST = Tape.MOST + 1;

        private final int[] codes = new int[MOST];
        private final int[] lefts = new int[MOST];
        private final int[] rights = new int[MOST];
        // those of numbers are put once, as the text is read
        private final int[] values = new int[MOST];
        private int length;
        private int w, v, s, p, q, i;

        /** False: the text is none of a FLOOR, and the tape's place is the FAULT. */
        boolean readFrom(Tape tape) {
            length = 0;
            boolean more = true;
            for (int n = 0; n <= Tape.MOST && more; n++) {
                if (!readLine(tape)) {
                    return false;
                }
                more = tape.skip(';');
            }
            return tape.isAtEnd();
        }

        private boolean readLine(Tape tape) {
            int part = readJoined(tape, EITHER, 0);
            if (part != NONE && tape.skip('?')) {
                append(CONDITION, part, NONE);
                part = readJoined(tape, EITHER, 0);
            }
            append(LINE_END, part, NONE);
            return part != NONE;
        }

        /** E, A, B, S or P, by the level of what joins its parts: the part it became, or NONE. */
        private int readJoined(Tape tape, int level, int open) {
            if (level > PRODUCT) {
                return readOne(tape, open);
            }
            int part = readJoined(tape, level + 1, open);
            int most = level == COMPARED ? 1 : Tape.MOST;
            for (int n = 0; n < most && part != NONE && levelOf(tape.here()) == level; n++) {
                int sign = tape.here();
                tape.skip(sign);
                int right = readJoined(tape, level + 1, open);
                part = right == NONE ? NONE : append(sign, part, right);
            }
            return part;
        }

        private static int levelOf(int sign) {
            switch (sign) {
                case '|': return EITHER;
                case '&': return BOTH;
                case '<': case '=': case '>': return COMPARED;
                case '+': case '-': return SUM;
                case '*': case '/': case '%': return PRODUCT;
                default: return NONE;
            }
        }

        /** O: the part it became, or NONE; open counts the ( ! - that stand open ahead of it. */
        private int readOne(Tape tape, int open) {
            int sign = tape.here();
            switch (sign) {
                case 'w': case 'v': case 's': case 'p': case 'q': case 'i':
                    tape.skip(sign);
                    return append(sign, NONE, NONE);
                case '!': case '-': case '(':
                    return open < MOST_OPEN && tape.skip(sign) ? readOpened(tape, sign, open + 1) : NONE;
                default:
                    int number = tape.number(4);
                    return number < 0 ? NONE : appendNumber(number);
            }
        }

        private int readOpened(Tape tape, int sign, int open) {
            if (sign == '(') {
                int inner = readJoined(tape, EITHER, open);
                return inner != NONE && tape.skip(')') ? inner : NONE;
            }
            int part = readOne(tape, open);
            return part == NONE ? NONE : append(sign == '-' ? NEGATED : sign, part, NONE);
        }

        private int append(int code, int left, int right) {
            if (length < 0 || length >= MOST) {
                return NONE;
            }
            codes[length] = code;
            lefts[length] = left;
            rights[length] = right;
            length++;
            return length - 1;
        }

        private int appendNumber(int number) {
            int part = append(NUMBER, NONE, NONE);
            if (part >= 0 && part < MOST) {
                values[part] = number;
            }
            return part;
        }

        void name(int turn, int rattleP, int rattleQ, int tick) {
            s = Math.abs(turn);
            p = rattleP;
            q = rattleQ;
            i = tick;
        }

        /** What it takes of size, which is that of the TURN (0), of p (1) or of q (2). */
        int takes(int what, int size) {
            w = what;
            v = size;
            boolean passing = false;
            for (int at = 0; at < length && at < MOST && size > 0; at++) {
                int code = codes[at];
                int left = valueAt(lefts[at]);
                if (code == LINE_END) {
                    if (!passing) {
                        return Math.max(0, Math.min(size, left));
                    }
                    passing = false;
                } else if (!passing && code == CONDITION) {
                    passing = left == 0;
                } else if (!passing && code != NUMBER) {
                    values[at] = result(code, left, valueAt(rights[at]));
                }
            }
            return 0;
        }

        private int valueAt(int part) {
            return part >= 0 && part < MOST ? values[part] : 0;
        }

        private int result(int code, int left, int right) {
            switch (code) {
                case 'w': return w;
                case 'v': return v;
                case 's': return s;
                case 'p': return p;
                case 'q': return q;
                case 'i': return i;
                case '!': return left == 0 ? 1 : 0;
                case NEGATED: return -left;
                case '+': return left + right;
                case '-': return left - right;
                case '*': return left * right;
                case '/': return right == 0 ? 0 : left / right;
                case '%': return right == 0 ? 0 : left % right;
                case '<': return left < right ? 1 : 0;
                case '=': return left == right ? 1 : 0;
                case '>': return left > right ? 1 : 0;
                case '&': return left != 0 && right != 0 ? 1 : 0;
                case '|': return left != 0 || right != 0 ? 1 : 0;
                default: return 0;
            }
        }
    }

    /** A GOING as it goes on: the laws it goes by, where it is, and what of it is told. */
    private static final class Motion {
        private static final int MOST = 9999;

        private int keen, a, b, c, d;
        private Floor floor;
        private int percent;
        private int s, p, q, tick;
        private int side;
        private int backs;
        private int turned;
        private int lostS, lostP, lostQ;

        void rule(Stone stone, int k, Floor on) {
            keen = k;
            a = stone.rate(0);
            b = stone.rate(1);
            c = stone.rate(2);
            d = stone.rate(3);
            floor = on;
            // nothing in a hundred takes nothing: a GOING without a FLOOR
            percent = 0;
        }

        void start(int turn, int rattleP, int rattleQ, int at) {
            s = turn;
            p = rattleP;
            q = rattleQ;
            tick = at;
            side = Integer.signum(s);
            backs = 0;
            turned = 0;
            lostS = 0;
            lostP = 0;
            lostQ = 0;
        }

        void run(int ticks) {
            for (int i = 0; i < ticks; i++) {
                step();
            }
        }

        void step() {
            tick++;
            growRattle();
            pushTurn();
            lose();
            turned += s;
            int now = Integer.signum(s);
            if (now != 0) {
                if (now == -side) {
                    backs++;
                }
                side = now;
            }
        }

        private void growRattle() {
            int u = s * keen;
            if (u > 0) {
                int g = grown(p, u, a);
                p = heldRattle(p + g);
                s = nearer(s, g);
            } else if (u < 0) {
                int g = grown(q, -u, b);
                q = heldRattle(q + g);
                s = nearer(s, g);
            }
        }

        private int grown(int rattle, int size, int rate) {
            return (int) Math.min(Math.abs(s), (long) rattle * size * rate / 1000000);
        }

        private void pushTurn() {
            int way = Integer.signum(keen);
            if (way == 0) {
                return;
            }
            int fromP = p * c / 100;
            p -= fromP;
            s = heldTurn(s - way * fromP);
            int fromQ = q * d / 100;
            q -= fromQ;
            s = heldTurn(s + way * fromQ);
        }

        private void lose() {
            if (floor != null) {
                floor.name(s, p, q, tick);
            }
            int ofS = lossOf(0, Math.abs(s));
            int ofP = lossOf(1, p);
            int ofQ = lossOf(2, q);
            s = nearer(s, ofS);
            p -= ofP;
            q -= ofQ;
            lostS += ofS;
            lostP += ofP;
            lostQ += ofQ;
        }

        private int lossOf(int what, int size) {
            return floor != null ? floor.takes(what, size) : (size * percent + 99) / 100;
        }

        private static int nearer(int turn, int by) {
            return turn > 0 ? turn - by : turn + by;
        }

        private static int heldTurn(int turn) {
            return Math.max(-MOST, Math.min(MOST, turn));
        }

        private static int heldRattle(int rattle) {
            return Math.max(0, Math.min(MOST, rattle));
        }
    }

    /** THE GOING that is kept. */
    private static final class Going {
        private final int[] turns = new int[MOST_TICKS + 1];
        private final int[] ps = new int[MOST_TICKS + 1];
        private final int[] qs = new int[MOST_TICKS + 1];
        private int last = -1;
        private int backs;
        private int turned;
        private int lostS, lostP, lostQ;

        boolean isThere() {
            return last >= 0;
        }

        void record(Motion motion, int n) {
            last = n;
            note(motion, 0);
            for (int tick = 1; tick <= n; tick++) {
                motion.step();
                note(motion, tick);
            }
            backs = motion.backs;
            turned = motion.turned;
            lostS = motion.lostS;
            lostP = motion.lostP;
            lostQ = motion.lostQ;
        }

        private void note(Motion motion, int tick) {
            if (tick >= 0 && tick <= MOST_TICKS) {
                turns[tick] = motion.s;
                ps[tick] = motion.p;
                qs[tick] = motion.q;
            }
        }

        int at(int tick, int what) {
            if (tick < 0 || tick > MOST_TICKS) {
                return VOID;
            }
            return what == 0 ? turns[tick] : what == 1 ? ps[tick] : qs[tick];
        }

        /** At which TICK it TURNS BACK the i-th time, from 0; BAD: none such. */
        int backTick(int i) {
            int before = -1;
            int side = 0;
            for (int tick = 0; tick <= last && tick <= MOST_TICKS; tick++) {
                int now = Integer.signum(turns[tick]);
                if (now != 0 && now == -side) {
                    before++;
                    if (before == i) {
                        return tick;
                    }
                }
                side = now != 0 ? now : side;
            }
            return BAD;
        }

        int summary(int what) {
            switch (what) {
                case 0: return ended();
                case 1: return turned;
                case 2: return lostS;
                case 3: return lostP;
                case 4: return lostQ;
                default: return VOID;
            }
        }

        private int ended() {
            for (int tick = 0; tick <= last && tick <= MOST_TICKS; tick++) {
                if (turns[tick] == 0 && ps[tick] == 0 && qs[tick] == 0) {
                    return tick;
                }
            }
            return NOT;
        }
    }

    /** THE FILM. */
    private static final class Film {
        private static final int MOST = 40;

        private final int[] ticks = new int[MOST];
        private final int[] turns = new int[MOST];
        private int length;

        boolean mayCome(int tick, int turn) {
            int latest = length > 0 && length <= MOST ? ticks[length - 1] : -1;
            return tick > latest && isWithin(tick, 0, MOST_TICKS) && isWithin(turn, -9999, 9999);
        }

        /** False: it is FULL. */
        boolean append(int tick, int turn) {
            if (length < 0 || length >= MOST) {
                return false;
            }
            ticks[length] = tick;
            turns[length] = turn;
            length++;
            return true;
        }

        /** FRAMES FROM A ROW: how many came. */
        int takeFrom(Shelf row, int i, int n) {
            int came = 0;
            boolean good = true;
            for (int at = 0; at < n && good; at++) {
                good = row.hasPlaces(i, 2 * at + 2);
                if (good) {
                    int tick = (int) row.read(i + 2 * at);
                    int turn = (int) row.read(i + 2 * at + 1);
                    good = mayCome(tick, turn) && append(tick, turn);
                }
                came += good ? 1 : 0;
            }
            return came;
        }

        int tickAt(int i) {
            return i >= 0 && i < length && i < MOST ? ticks[i] : 0;
        }

        int turnAt(int i) {
            return i >= 0 && i < length && i < MOST ? turns[i] : 0;
        }
    }

    /** CHANGES, the oldest first: those that may be UNDONE, then those that may be DONE AGAIN. */
    private static final class Changes {
        static final int STONE = 0, WHAT = 1, WAS = 2, BECAME = 3;
        private static final int MOST = 40, PARTS = 4;

        private final int[] parts = new int[MOST * PARTS];
        private int done;
        private int all;

        void note(int stone, int what, int was, int became) {
            if (done == MOST) {
                System.arraycopy(parts, PARTS, parts, 0, (MOST - 1) * PARTS);
                done--;
            }
            write(STONE, stone);
            write(WHAT, what);
            write(WAS, was);
            write(BECAME, became);
            done++;
            all = done;
        }

        private void write(int part, int v) {
            int at = done * PARTS + part;
            if (at >= 0 && at < parts.length) {
                parts[at] = v;
            }
        }

        int part(int change, int part) {
            int at = change * PARTS + part;
            return at >= 0 && at < parts.length ? parts[at] : 0;
        }
    }

    /** BODIES, the acts of their KINDS, and THE TRACE. */
    private static final class Bodies {
        static final int MOST_KIND = 7;
        private static final int MOST = 50, MOST_TRACE = 24, MOST_DEEP = 40;
        private static final int ROLLS = 0, TRADES = 1, ENDS = 2, TELLS = 3, ACTS = 4;
        private static final int NO_KIND = -1;

        /** By KIND: the KIND above it. */
        private static final int[] ABOVE = {NO_KIND, 0, 0, 2, 2, 1, 0, 6};
        /** By KIND and act: the number of its own body of that act; 0: it has none. */
        private static final int[] OWN = {
            1, 10, 11, 2,
            20, 0, 0, 0,
            0, 30, 0, 0,
            0, 41, 40, 0,
            0, 0, 0, 50,
            60, 0, 61, 0,
            0, 0, 70, 0,
            0, 80, 0, 81,
        };

        private final int[] kinds = new int[MOST];
        private final int[] ranNumbers = new int[MOST_TRACE];
        private int length;
        private int ran;
        private int self;
        private int selfKind;

        /** False: they are FULL. */
        boolean append(int kind) {
            if (length < 0 || length >= MOST) {
                return false;
            }
            kinds[length] = kind;
            length++;
            return true;
        }

        int kindOf(int body) {
            return body >= 0 && body < length && body < MOST ? kinds[body] : NO_KIND;
        }

        private static int above(int kind) {
            return kind >= 0 && kind < ABOVE.length ? ABOVE[kind] : NO_KIND;
        }

        static boolean isUnder(int kind, int top) {
            int at = kind;
            for (int i = 0; i < ABOVE.length && at != NO_KIND && at != top; i++) {
                at = above(at);
            }
            return at == top && kind != NO_KIND;
        }

        private static int ownNumber(int kind, int act) {
            int at = kind * ACTS + act;
            return kind >= 0 && at >= 0 && at < OWN.length ? OWN[at] : 0;
        }

        int traced(int i) {
            return i >= 0 && i < ran && i < MOST_TRACE ? ranNumbers[i] : BAD;
        }

        int perform(int body, int act, int x) {
            ran = 0;
            selfKind = kindOf(body);
            self = body;
            return selfKind == NO_KIND || act < 0 || act >= ACTS ? 0 : ask(selfKind, act, x, 0);
        }

        /** The act by the body of this KIND, or of the next KIND above that has one. */
        private int ask(int from, int act, int x, int depth) {
            int kind = from;
            for (int i = 0; i < ABOVE.length && ownNumber(kind, act) == 0; i++) {
                kind = above(kind);
            }
            int number = ownNumber(kind, act);
            if (number == 0 || depth > MOST_DEEP) {
                return 0;
            }
            if (ran >= 0 && ran < MOST_TRACE) {
                ranNumbers[ran] = number;
            }
            ran++;
            return run(number, above(kind), x, depth + 1);
        }

        /** The body of this number; above is the KIND at which its super begins. */
        private int run(int number, int above, int x, int depth) {
            switch (number) {
                case 1: return x + self;
                case 2: return ask(selfKind, TRADES, x, depth) - ask(selfKind, ENDS, 1, depth);
                case 10: return ask(selfKind, ROLLS, x, depth) * 2;
                case 11: return x ^ self;
                case 20: return ask(above, ROLLS, x, depth) + 3;
                case 30: return -ask(above, TRADES, x, depth);
                case 40: return ask(above, ENDS, x, depth) * 3;
                case 41: return ask(above, TRADES, x + 1, depth);
                case 50: return ask(above, TELLS, x, depth) ^ 5;
                case 60: return ask(above, ROLLS, x, depth) * 2;
                case 61: return ask(above, ENDS, x, depth) + ask(selfKind, ROLLS, 1, depth);
                case 70: return ask(above, ENDS, x, depth) - 1;
                case 80: return ask(above, TRADES, x, depth) + ask(selfKind, ENDS, 2, depth);
                case 81: return ask(above, TELLS, x, depth) - ask(selfKind, ROLLS, 1, depth);
                default: return 0;
            }
        }
    }

    /** A SHELF: nothing, a BODY, or a ROW, whose elements stand as what is read of them. */
    private static final class Shelf {
        static final int MOST = 60, MOST_SORT = 4, SHORTS = 1;
        private static final int BYTES = 0, INTS = 2, BOOLEANS = 4, NO_ROW = -1, NO_BODY = -1;

        private final long[] elements = new long[MOST];
        private int body = NO_BODY;
        private int sort = NO_ROW;
        private int length;

        void hold(int which) {
            body = which;
            sort = NO_ROW;
            length = 0;
        }

        void holdRow(int newSort, int n) {
            body = NO_BODY;
            sort = newSort;
            length = n;
            for (int i = 0; i < n && i < elements.length; i++) {
                elements[i] = 0;
            }
        }

        boolean isRow() {
            return sort != NO_ROW;
        }

        boolean isRowOf(int wanted) {
            return isRow() && sort == wanted;
        }

        boolean isEmpty() {
            return !isRow() && body == NO_BODY;
        }

        /** Whether n places from i on are there. */
        boolean hasPlaces(int i, int n) {
            return i >= 0 && n >= 0 && i <= length - n;
        }

        /** Why element i of a ROW is not there; 0: it is. */
        int refusal(int i) {
            if (isEmpty()) {
                return NOTHING;
            }
            if (!isRow()) {
                return UNLIKE;
            }
            return hasPlaces(i, 1) ? 0 : NO_PLACE;
        }

        long read(int i) {
            return i >= 0 && i < length && i < elements.length ? elements[i] : 0;
        }

        void write(int i, long v) {
            if (i >= 0 && i < length && i < elements.length) {
                elements[i] = cutDown(v);
            }
        }

        private long cutDown(long v) {
            switch (sort) {
                case BYTES: return (byte) v;
                case SHORTS: return (short) v;
                case INTS: return (int) v;
                case BOOLEANS: return v != 0 ? 1 : 0;
                default: return v;
            }
        }
    }
}
