import java.lang.reflect.Array;
import java.util.ArrayDeque;
import java.util.ArrayList;
import java.util.Arrays;
import java.util.Deque;
import java.util.List;
import java.util.regex.Matcher;
import java.util.regex.Pattern;

/**
 * The document told a second time, with the whole Java library and in other ways than the class
 * goes: texts by patterns and by a machine with a stack, acts by real classes, shelves by real
 * arrays and what the machine throws for them. RandomRunsTest compares the two.
 */
final class Plain {
    static final int BAD = -1, NOT = -2, FULL = -3, STATE = -5, VOID = -2000000000;

    static final class Lump { int weight, x, y; }

    static final class Rock {
        final List<Lump> lumps = new ArrayList<>();
        final int[] abcd = new int[4];

        long[] ways(int m, int x, int y) {
            List<Lump> all = new ArrayList<>(lumps);
            for (int side = -1; side <= 1 && m > 0; side += 2) {
                Lump screw = new Lump();
                screw.weight = m;
                screw.x = side * x;
                screw.y = side * y;
                all.add(screw);
            }
            long w = 0, wx = 0, wy = 0, wxx = 0, wyy = 0, wxy = 0;
            for (Lump l : all) {
                w += l.weight;
                wx += l.weight * l.x;
                wy += l.weight * l.y;
                wxx += l.weight * l.x * l.x;
                wyy += l.weight * l.y * l.y;
                wxy += l.weight * l.x * l.y;
            }
            long xx = w * wxx - wx * wx, yy = w * wyy - wy * wy, xy = w * wxy - wx * wy;
            long keen = 18 * xy / (Math.abs(xx - yy) + 1);
            return new long[] {w, xx, yy, xy, Math.max(-9, Math.min(9, keen))};
        }

        int keen() { return (int) ways(0, 0, 0)[4]; }
    }

    interface Taker { int takes(int w, int v, int s, int p, int q, int i); }

    static final class Course {
        int[] s, p, q;
        final int[] lost = new int[3];
        final List<Integer> backs = new ArrayList<>();
        int sum;
    }

    final StringBuilder tape = new StringBuilder();
    final List<Rock> rocks = new ArrayList<>();
    final List<String> grounds = new ArrayList<>();
    Course kept;
    final List<int[]> film = new ArrayList<>();
    final List<int[]> undoable = new ArrayList<>();
    final List<int[]> redoable = new ArrayList<>();
    final List<Beings.Going> beings = new ArrayList<>();
    final List<Integer> trace = new ArrayList<>();
    final Object[] shelves = new Object[6];

    // ---- texts

    int feed(int n, int v) {
        if (n < 1 || n > 4) return BAD;
        if (tape.length() + n > 120) return FULL;
        for (int i = 0; i < n; i++) tape.append((char) (v >> 8 * i & 255));
        return tape.length();
    }

    private static final String LUMP = "[1-9][+-][0-9][+-][0-9]";
    private static final Pattern STONE = Pattern.compile(
        LUMP + "(?:;" + LUMP + "){0,11}/([0-9]{1,3}),([0-9]{1,3}),([0-9]{1,3}),([0-9]{1,3})");

    int stone() {
        if (rocks.size() == 6) return FULL;
        String text = tape.toString();
        tape.setLength(0);
        int fault = faultOfStone(text);
        if (fault >= 0) return -100 - fault;
        Rock rock = new Rock();
        for (String part : text.substring(0, text.indexOf('/')).split(";")) {
            Lump lump = new Lump();
            lump.weight = part.charAt(0) - '0';
            lump.x = Integer.parseInt(part.substring(1, 3));
            lump.y = Integer.parseInt(part.substring(3, 5));
            rock.lumps.add(lump);
        }
        String[] rates = text.substring(text.indexOf('/') + 1).split(",");
        for (int i = 0; i < 4; i++) rock.abcd[i] = Integer.parseInt(rates[i]);
        rocks.add(rock);
        return rocks.size() - 1;
    }

    /** The shortest beginning that no STONE begins with ends with the FAULT; -1: none. */
    private static int faultOfStone(String text) {
        int fault = -1;
        for (int end = 1; end <= text.length() && fault < 0; end++) {
            Matcher m = STONE.matcher(text.substring(0, end));
            if (!m.matches() && !m.hitEnd()) fault = end - 1;
        }
        String good = fault < 0 ? text : text.substring(0, fault);
        int slash = good.indexOf('/');
        if (slash >= 0) {
            int at = slash + 1;
            String[] rates = good.substring(at).split(",", -1);
            for (int i = 0; i < rates.length; i++) {
                if (i >= 2 && !rates[i].isEmpty() && Integer.parseInt(rates[i]) > 100) return at;
                at += rates[i].length() + 1;
            }
        }
        if (fault >= 0) return fault;
        return STONE.matcher(text).matches() ? -1 : text.length();
    }

    int floor() {
        if (grounds.size() == 4) return FULL;
        String text = tape.toString();
        tape.setLength(0);
        int fault = faultOfFloor(text);
        if (fault >= 0) return -100 - fault;
        grounds.add(text);
        return grounds.size() - 1;
    }

    /** A machine with a stack of what is open, and for each level whether it has compared. */
    private static int faultOfFloor(String text) {
        Deque<Character> open = new ArrayDeque<>();
        Deque<Boolean> compared = new ArrayDeque<>(List.of(false));
        boolean wantsOne = true, asked = false;
        int digits = 0;
        for (int i = 0; i < text.length(); i++) {
            char c = text.charAt(i);
            boolean isDigit = c >= '0' && c <= '9';
            if (wantsOne) {
                if ("(!-".indexOf(c) >= 0) {
                    if (open.size() == 6) return i;
                    open.push(c);
                    if (c == '(') compared.push(false);
                    continue;
                }
                if (!isDigit && "wvspqi".indexOf(c) < 0) return i;
                digits = isDigit ? 1 : 4;
                wantsOne = false;
                while (!open.isEmpty() && open.peek() != '(') open.pop();
                continue;
            }
            if (isDigit) {
                if (++digits > 4) return i;
                continue;
            }
            digits = 4;
            if (c == ')') {
                if (open.isEmpty()) return i;
                open.pop();
                compared.pop();
                while (!open.isEmpty() && open.peek() != '(') open.pop();
                continue;
            }
            wantsOne = true;
            if ("<=>".indexOf(c) >= 0) {
                if (compared.pop()) return i;
                compared.push(true);
            } else if ("|&".indexOf(c) >= 0) {
                compared.pop();
                compared.push(false);
            } else if (c == '?' || c == ';') {
                if (!open.isEmpty() || c == '?' && asked) return i;
                asked = c == '?';
                compared.pop();
                compared.push(false);
            } else if ("+-*/%".indexOf(c) < 0) {
                return i;
            }
        }
        return wantsOne || !open.isEmpty() ? text.length() : -1;
    }

    /** Works a floor's text out as it stands, each time anew. */
    static final class Worker {
        final String text;
        final int[] names;
        int at;

        Worker(String text, int... names) { this.text = text; this.names = names; }

        boolean has(String signs) { return at < text.length() && signs.indexOf(text.charAt(at)) >= 0; }

        int any() {
            int v = all();
            while (has("|")) { at++; int r = all(); v = v != 0 | r != 0 ? 1 : 0; }
            return v;
        }

        int all() {
            int v = compare();
            while (has("&")) { at++; int r = compare(); v = v != 0 & r != 0 ? 1 : 0; }
            return v;
        }

        int compare() {
            int v = sum();
            if (!has("<=>")) return v;
            char c = text.charAt(at++);
            int order = Integer.compare(v, sum());
            return order == "<=>".indexOf(c) - 1 ? 1 : 0;
        }

        int sum() {
            int v = product();
            while (has("+-")) { char c = text.charAt(at++); int r = product(); v = c == '+' ? v + r : v - r; }
            return v;
        }

        int product() {
            int v = one();
            while (has("*/%")) {
                char c = text.charAt(at++);
                int r = one();
                v = c == '*' ? v * r : r == 0 ? 0 : c == '/' ? (int) ((long) v / r) : (int) ((long) v % r);
            }
            return v;
        }

        int one() {
            char c = text.charAt(at++);
            if (c == '!') return one() == 0 ? 1 : 0;
            if (c == '-') return -one();
            if (c == '(') { int v = any(); at++; return v; }
            int name = "wvspqi".indexOf(c);
            if (name >= 0) return names[name];
            int v = c - '0';
            while (has("0123456789")) v = 10 * v + text.charAt(at++) - '0';
            return v;
        }
    }

    static int worth(String floor, int w, int v, int s, int p, int q, int i) {
        for (String line : floor.split(";")) {
            int mark = line.indexOf('?');
            if (mark < 0) return new Worker(line, w, v, s, p, q, i).any();
            if (new Worker(line.substring(0, mark), w, v, s, p, q, i).any() != 0) {
                return new Worker(line.substring(mark + 1), w, v, s, p, q, i).any();
            }
        }
        return 0;
    }

    // ---- goings

    static int held(long v, int least, int most) { return (int) Math.max(least, Math.min(most, v)); }

    /** The TICKS from first (the START) to last. */
    static Course course(Rock rock, int k, Taker floor, int s, int p, int q, int first, int last) {
        Course c = new Course();
        c.s = new int[last + 1];
        c.p = new int[last + 1];
        c.q = new int[last + 1];
        c.s[first] = s;
        c.p[first] = p;
        c.q[first] = q;
        for (int i = first + 1; i <= last; i++) {
            long u = (long) s * k;
            if (u > 0) {
                long g = Math.min(Math.abs(s), p * Math.abs(u) * rock.abcd[0] / 1000000L);
                p = held(p + g, 0, 9999);
                s -= Integer.signum(s) * g;
            } else if (u < 0) {
                long g = Math.min(Math.abs(s), q * Math.abs(u) * rock.abcd[1] / 1000000L);
                q = held(q + g, 0, 9999);
                s -= Integer.signum(s) * g;
            }
            if (k != 0) {
                int push = p * rock.abcd[2] / 100;
                p -= push;
                s = held(k > 0 ? s - push : s + push, -9999, 9999);
                push = q * rock.abcd[3] / 100;
                q -= push;
                s = held(k > 0 ? s + push : s - push, -9999, 9999);
            }
            int size = Math.abs(s);
            int[] had = {size, p, q};
            int[] take = new int[3];
            for (int w = 0; w < 3; w++) {
                take[w] = held(floor.takes(w, had[w], size, p, q, i), 0, had[w]);
                c.lost[w] += take[w];
            }
            s -= Integer.signum(s) * take[0];
            p -= take[1];
            q -= take[2];
            c.s[i] = s;
            c.p[i] = p;
            c.q[i] = q;
            c.sum += s;
        }
        for (int i = first; i <= last; i++) {
            int before = i - 1;
            while (before >= first && c.s[before] == 0) before--;
            if (before >= first && (long) c.s[before] * c.s[i] < 0) c.backs.add(i);
        }
        return c;
    }

    Taker taker(int floor) {
        if (floor == 9) return (w, v, s, p, q, i) -> 0;
        String text = grounds.get(floor);
        return (w, v, s, p, q, i) -> worth(text, w, v, s, p, q, i);
    }

    boolean rockIs(int stone) { return stone >= 0 && stone < rocks.size(); }

    boolean floorIs(int floor) { return floor == 9 || floor >= 0 && floor < grounds.size(); }

    boolean sfIs(int sf) { return sf >= 0 && rockIs(sf / 10) && floorIs(sf % 10); }

    static boolean pqIs(int pq) { return pq >= 0 && pq <= 999999; }

    static boolean startIs(int s, int pq) { return Math.abs((long) s) <= 999 && pqIs(pq); }

    Course thought(int sf, int s, int pq) {
        Rock rock = rocks.get(sf / 10);
        return course(rock, rock.keen(), taker(sf % 10), s, pq / 1000, pq % 1000, 0, 400);
    }

    int of(int stone, int what) {
        if (!rockIs(stone) || what < 0 || what > 9) return VOID;
        Rock rock = rocks.get(stone);
        if (what == 0) return rock.lumps.size();
        return what <= 5 ? (int) rock.ways(0, 0, 0)[what - 1] : rock.abcd[what - 6];
    }

    int lump(int stone, int i, int what) {
        if (!rockIs(stone) || i < 0 || i >= rocks.get(stone).lumps.size() || what < 0 || what > 2) return VOID;
        Lump lump = rocks.get(stone).lumps.get(i);
        return new int[] {lump.weight, lump.x, lump.y}[what];
    }

    int set(int stone, int what, int v) {
        if (!rockIs(stone) || what < 6 || what >= 10 + rocks.get(stone).lumps.size()) return BAD;
        int least = what < 10 ? 0 : 1, most = what < 8 ? 999 : what < 10 ? 100 : 9;
        if (v < least || v > most) return BAD;
        int was = become(stone, what, v);
        if (was == v) return was;
        redoable.clear();
        undoable.add(new int[] {stone, what, was, v});
        if (undoable.size() > 40) undoable.remove(0);
        return was;
    }

    int become(int stone, int what, int v) {
        Rock rock = rocks.get(stone);
        int was = what < 10 ? rock.abcd[what - 6] : rock.lumps.get(what - 10).weight;
        if (what < 10) rock.abcd[what - 6] = v;
        else rock.lumps.get(what - 10).weight = v;
        return was;
    }

    int grows(int stone, int side) {
        if (!rockIs(stone) || side != 1 && side != -1) return BAD;
        int k = rocks.get(stone).keen();
        return k == 0 ? 0 : k > 0 == side > 0 ? 1 : 2;
    }

    int roll(int sf, int s, int pq, int n) {
        if (!sfIs(sf) || !startIs(s, pq) || n < 0 || n > 400) return VOID;
        Rock rock = rocks.get(sf / 10);
        kept = course(rock, rock.keen(), taker(sf % 10), s, pq / 1000, pq % 1000, 0, n);
        return kept.s[n];
    }

    int going(int tick, int what) {
        if (kept == null || tick < -1 || tick >= kept.s.length || what < 0 || what > 2) return VOID;
        if (tick == -1) return what == 0 ? kept.s.length - 1 : VOID;
        return (what == 0 ? kept.s : what == 1 ? kept.p : kept.q)[tick];
    }

    int back(int i) {
        if (i < -1) return BAD;
        if (kept == null) return STATE;
        if (i == -1) return kept.backs.size();
        return i < kept.backs.size() ? kept.backs.get(i) : BAD;
    }

    int told(int what) {
        if (kept == null || what < 0 || what > 4) return VOID;
        if (what == 1) return kept.sum;
        if (what > 1) return kept.lost[what - 2];
        for (int i = 0; i < kept.s.length; i++) {
            if (kept.s[i] == 0 && kept.p[i] == 0 && kept.q[i] == 0) return i;
        }
        return NOT;
    }

    // ---- in thought

    int even(int stone, int s, int pq, int c) {
        if (!rockIs(stone) || !startIs(s, pq) || c < 0 || c > 99) return BAD;
        Rock rock = rocks.get(stone);
        Taker floor = (w, v, ss, p, q, i) -> (v * c + 99) / 100;
        return course(rock, rock.keen(), floor, s, pq / 1000, pq % 1000, 0, 400).backs.size();
    }

    int soonest(int floor, int s, int pq, int what) {
        if (!floorIs(floor) || !startIs(s, pq) || what < 0 || what > 1) return BAD;
        int[] best = null;
        for (int i = 0; i < rocks.size(); i++) {
            List<Integer> backs = thought(10 * i + floor, s, pq).backs;
            if (!backs.isEmpty() && (best == null || backs.get(0) < best[1])) best = new int[] {i, backs.get(0)};
        }
        return best == null ? NOT : best[what];
    }

    int screws(int stone, int m, int v) {
        if (!rockIs(stone) || m < 1 || m > 9 || v < -9 || v > 9) return BAD;
        for (int place = 0; place < 361; place++) {
            int x = place / 19 - 9, y = place % 19 - 9;
            if (rocks.get(stone).ways(m, x, y)[4] >= v) return 100 * (x + 9) + y + 9;
        }
        return NOT;
    }

    int lightest(int stone, int v) {
        if (!rockIs(stone) || v < -9 || v > 9) return BAD;
        for (int m = 1; m <= 9; m++) if (screws(stone, m, v) != NOT) return m;
        return NOT;
    }

    int seen(int sf, int s, int pq) {
        if (!sfIs(sf) || !startIs(s, pq)) return BAD;
        for (int k = 1; k <= 9; k++) {
            Course c = course(rocks.get(sf / 10), k, taker(sf % 10), s, pq / 1000, pq % 1000, 0, 400);
            if (!c.backs.isEmpty()) return k;
        }
        return NOT;
    }

    int pressed(int sf, int pq) {
        return sfIs(sf) && pqIs(pq) ? thought(sf, 0, pq).sum : VOID;
    }

    int hands(int sf, int seed, int n) {
        if (!sfIs(sf) || n < 1 || n > 20) return BAD;
        int z = seed, many = 0;
        for (int i = 0; i < n; i++) {
            int[] draw = new int[3];
            for (int j = 0; j < 3; j++) {
                z = z * 1103515245 + 12345;
                draw[j] = z >>> 8;
            }
            int pq = draw[1] % 50 * 1000 + draw[2] % 50;
            if (!thought(sf, draw[0] % 1001 - 500, pq).backs.isEmpty()) many++;
        }
        return many;
    }

    // ---- films, found stones

    boolean frameMay(int tick, int s) {
        int latest = film.isEmpty() ? -1 : film.get(film.size() - 1)[0];
        return tick >= 0 && tick <= 400 && tick > latest && s >= -9999 && s <= 9999;
    }

    int frame(int tick, int s) {
        if (!frameMay(tick, s)) return BAD;
        if (film.size() == 40) return FULL;
        film.add(new int[] {tick, s});
        return film.size() - 1;
    }

    int frames(int shelf, int i, int n) {
        if (shelf < 0 || shelf > 5 || n < 1 || n > 30) return BAD;
        Object on = shelves[shelf];
        if (on != null && !(on instanceof short[])) return -12;
        short[] row = (short[]) on;
        if (row == null || i < 0) return 0;
        int came = 0;
        for (long at = i; came < n && at + 1 < row.length; at += 2) {
            int tick = row[(int) at], turn = row[(int) at + 1];
            if (!frameMay(tick, turn) || film.size() == 40) break;
            film.add(new int[] {tick, turn});
            came++;
        }
        return came;
    }

    int cut() {
        int had = film.size();
        film.clear();
        return had;
    }

    int offBy(int sf, int pq, int k) {
        int[] first = film.get(0);
        int last = film.get(film.size() - 1)[0];
        Course c = course(rocks.get(sf / 10), k, taker(sf % 10), first[1], pq / 1000, pq % 1000, first[0], last);
        return film.stream().mapToInt(f -> Math.abs(f[1] - c.s[f[0]])).sum();
    }

    int off(int sf, int pq, int k) {
        if (!sfIs(sf) || !pqIs(pq) || k < -9 || k > 9) return BAD;
        return film.isEmpty() ? STATE : offBy(sf, pq, k);
    }

    int shape(int sf, int pq, int what) {
        if (!sfIs(sf) || !pqIs(pq) || what < 0 || what > 1) return VOID;
        if (film.isEmpty()) return STATE;
        int[] best = {0, Integer.MAX_VALUE};
        for (int k = -9; k <= 9; k++) {
            int off = offBy(sf, pq, k);
            if (off < best[1]) best = new int[] {k, off};
        }
        return best[what];
    }

    int span(int sf, int pq, int bound) {
        if (!sfIs(sf) || !pqIs(pq) || bound < 0) return BAD;
        if (film.isEmpty()) return STATE;
        int many = 0;
        for (int k = -9; k <= 9; k++) many += offBy(sf, pq, k) <= bound ? 1 : 0;
        return many;
    }

    int which(int stone, int pq) {
        if (!rockIs(stone) || !pqIs(pq)) return BAD;
        if (film.isEmpty() || grounds.isEmpty()) return STATE;
        int best = 0, least = Integer.MAX_VALUE;
        for (int f = 0; f < grounds.size(); f++) {
            int off = offBy(10 * stone + f, pq, rocks.get(stone).keen());
            if (off < least) {
                least = off;
                best = f;
            }
        }
        return best;
    }

    int chance(int n, int m) {
        if (n < 1 || n > 40 || m < 0 || m > n) return BAD;
        long[] ways = {1};
        for (int i = 0; i < n; i++) {
            long[] next = Arrays.copyOf(ways, ways.length + 1);
            for (int j = 0; j < ways.length; j++) next[j + 1] += ways[j];
            ways = next;
        }
        int greater = Math.max(m, n - m);
        long many = 0, all = 0;
        for (int left = 0; left <= n; left++) {
            all += ways[left];
            if (left >= greater || n - left >= greater) many += ways[left];
        }
        return (int) (1000 * many / all);
    }

    int undo() {
        if (undoable.isEmpty()) return STATE;
        int[] c = undoable.remove(undoable.size() - 1);
        redoable.add(c);
        become(c[0], c[1], c[2]);
        return undoable.size();
    }

    int redo() {
        if (redoable.isEmpty()) return STATE;
        int[] c = redoable.remove(redoable.size() - 1);
        undoable.add(c);
        become(c[0], c[1], c[3]);
        return redoable.size();
    }

    // ---- acts, shelves

    int body(int kind) {
        if (kind < 0 || kind > 7) return BAD;
        if (beings.size() == 50) return FULL;
        beings.add(Beings.of(kind, beings.size(), trace));
        return beings.size() - 1;
    }

    int act(int body, int act, int x) {
        trace.clear();
        if (body < 0 || body >= beings.size() || act < 0 || act > 3) return 0;
        Beings.Going on = beings.get(body);
        return act == 0 ? on.rolls(x) : act == 1 ? on.trades(x) : act == 2 ? on.ends(x) : on.tells(x);
    }

    int trace(int i) { return i >= 0 && i < Math.min(24, trace.size()) ? trace.get(i) : BAD; }

    int keep(int shelf, int body) {
        if (shelf < 0 || shelf > 5 || body < -1 || body >= beings.size()) return BAD;
        shelves[shelf] = body < 0 ? null : beings.get(body);
        return 1;
    }

    private static final Class<?>[] SORTS = {byte.class, short.class, int.class, long.class, boolean.class};

    int row(int shelf, int sort, int n) {
        if (shelf < 0 || shelf > 5 || sort < 0 || sort > 4 || n > 60) return BAD;
        try {
            shelves[shelf] = Array.newInstance(SORTS[sort], n);
            return 1;
        } catch (NegativeArraySizeException e) {
            return -14;
        }
    }

    int put(int shelf, int i, long v) {
        if (shelf < 0 || shelf > 5) return BAD;
        try {
            Object on = shelves[shelf];
            if (on == null) return -11;
            if (on instanceof byte[] r) r[i] = (byte) v;
            else if (on instanceof short[] r) r[i] = (short) v;
            else if (on instanceof int[] r) r[i] = (int) v;
            else if (on instanceof long[] r) r[i] = v;
            else if (on instanceof boolean[] r) r[i] = v != 0;
            else return -12;
            return 1;
        } catch (ArrayIndexOutOfBoundsException e) {
            return -13;
        }
    }

    long element(int shelf, int i) {
        if (shelf < 0 || shelf > 5) return Long.MIN_VALUE;
        Object on = shelves[shelf];
        if (on == null || on instanceof Beings.Going || i < 0 || i >= Array.getLength(on)) return Long.MIN_VALUE;
        return on instanceof boolean[] r ? r[i] ? 1 : 0 : Array.getLong(on, i);
    }

    int shift(int shelf, int i, int other, int j, int n) {
        if (shelf < 0 || shelf > 5 || other < 0 || other > 5) return BAD;
        try {
            System.arraycopy(shelves[shelf], i, shelves[other], j, n);
            return n;
        } catch (NullPointerException e) {
            return -11;
        } catch (ArrayStoreException e) {
            return -12;
        } catch (IndexOutOfBoundsException e) {
            return -13;
        }
    }

    int taken(int shelf, int k) {
        if (shelf < 0 || shelf > 5 || k < 0 || k > 7) return BAD;
        if (shelves[shelf] == null) return -11;
        return Beings.CLASSES.get(k).isInstance(shelves[shelf]) ? ((Beings.Going) shelves[shelf]).kind : -12;
    }

    int count(int what) {
        switch (what) {
            case 0: return rocks.size();
            case 1: return grounds.size();
            case 2: return film.size();
            case 3: return tape.length();
            case 4: return undoable.size();
            case 5: return beings.size();
            case 6: return trace.size();
            default: return BAD;
        }
    }
}
