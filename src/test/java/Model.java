import java.util.ArrayDeque;
import java.util.ArrayList;
import java.util.Arrays;
import java.util.HashMap;
import java.util.List;
import java.util.Map;

/**
 * The document told a second time, as plainly as it can be: every search tries everything, every answer is
 * worked out anew. Tests hold the class against it. It is slow, and that is fine.
 */
final class Model {
    static final int[] DX = {1, 1, 0, -1, -1, -1, 0, 1};
    static final int[] DY = {0, 1, 1, 1, 0, -1, -1, -1};

    static final class Mirror {
        int x, y, slant, loss, through, reach, owner, dust;
        boolean broken;
        int reading = -1;

        Mirror copy() {
            Mirror m = new Mirror();
            m.x = x; m.y = y; m.slant = slant; m.loss = loss; m.through = through;
            m.reach = reach; m.owner = owner; m.dust = dust; m.broken = broken; m.reading = reading;
            return m;
        }
    }

    static final class Yard {
        int x, y, toX, toY, take, want, light;

        Yard copy() {
            Yard d = new Yard();
            d.x = x; d.y = y; d.toX = toX; d.toY = toY; d.take = take; d.want = want; d.light = light;
            return d;
        }

        boolean has(int cx, int cy) {
            return cx >= x && cx <= toX && cy >= y && cy <= toY;
        }
    }

    static final class State {
        int columns, rows, gapX, gapY, air, month, day, fall;
        boolean[][] rock;
        int[][] eyes;
        Map<Integer, int[]> sun = new HashMap<>();
        List<Mirror> mirrors = new ArrayList<>();
        List<Yard> yards = new ArrayList<>();

        State copy() {
            State s = new State();
            s.columns = columns; s.rows = rows; s.gapX = gapX; s.gapY = gapY; s.air = air;
            s.month = month; s.day = day; s.fall = fall;
            s.rock = new boolean[rows][];
            s.eyes = new int[rows][];
            for (int y = 0; y < rows; y++) {
                s.rock[y] = rock[y].clone();
                s.eyes[y] = eyes[y].clone();
            }
            s.sun.putAll(sun);
            for (Mirror m : mirrors) s.mirrors.add(m.copy());
            for (Yard d : yards) s.yards.add(d.copy());
            return s;
        }

        boolean in(int x, int y) {
            return x >= 0 && y >= 0 && x < columns && y < rows;
        }

        Mirror mirrorAt(int x, int y) {
            for (Mirror m : mirrors) if (m.x == x && m.y == y) return m;
            return null;
        }

        int yardAt(int x, int y) {
            for (int i = 0; i < yards.size(); i++) if (yards.get(i).has(x, y)) return i;
            return -1;
        }

        int[] sunOf(int hour) {
            return sun.get(month * 24 + hour);
        }

        int met() {
            int n = 0;
            for (Yard d : yards) if (d.light >= d.want) n++;
            return n;
        }
    }

    static final class Trace {
        int[] got = new int[8];
        Map<Integer, Integer> passes = new HashMap<>();
        int lost, spilt, cells, beams;
        List<Integer> firstMirrors = new ArrayList<>();
        List<Integer> firstComes = new ArrayList<>();

        int all() {
            return Arrays.stream(got).sum();
        }
    }

    record Beam(int x, int y, int way, int strong) { }

    /** Traced, with so much gone from the first beam where it first comes to the mirror that steals. */
    static Trace traceWithTheft(State s, int x0, int y0, int way0, int strong0, int stealer, int stolen) {
        Trace t = new Trace();
        ArrayDeque<Beam> waiting = new ArrayDeque<>();
        Beam beam = new Beam(x0, y0, way0, strong0);
        boolean isFirst = true;
        t.beams = 1;
        while (beam != null) {
            int x = beam.x, y = beam.y, way = beam.way, strong = beam.strong;
            while (true) {
                if (strong == 0) break;
                if (t.cells == 2000) { t.spilt += strong; break; }
                t.cells++;
                if (!s.in(x, y) || s.rock[y][x]) { t.spilt += strong; break; }
                int air = (int) ((long) strong * s.air / 1000);
                t.lost += air;
                strong -= air;
                t.passes.merge(24 * y + x, strong, Math::max);
                int yard = s.yardAt(x, y);
                if (yard >= 0) {
                    int take = (int) ((long) strong * s.yards.get(yard).take / 1000);
                    t.got[yard] += take;
                    strong -= take;
                }
                Mirror m = s.mirrorAt(x, y);
                if (m != null && !m.broken) {
                    int number = s.mirrors.indexOf(m);
                    if (isFirst && !t.firstMirrors.contains(number)) {
                        t.firstMirrors.add(number);
                        t.firstComes.add(strong);
                        if (number == stealer) strong -= stolen;
                    }
                    int loss = (int) ((long) strong * Math.min(1000, m.loss + m.dust) / 1000);
                    t.lost += loss;
                    strong -= loss;
                    int through = (int) ((long) strong * m.through / 1000);
                    if (through > 0) {
                        if (waiting.size() == 60) {
                            t.spilt += through;
                        } else {
                            waiting.addLast(new Beam(x + DX[way], y + DY[way], way, through));
                            t.beams++;
                        }
                    }
                    strong -= through;
                    way = Math.floorMod(m.slant - way, 8);
                }
                x += DX[way];
                y += DY[way];
            }
            isFirst = false;
            beam = waiting.pollFirst();
        }
        return t;
    }

    static Trace trace(State s, int x, int y, int way, int strong) {
        return traceWithTheft(s, x, y, way, strong, -1, 0);
    }

    static Trace trace(State s, int hour) {
        int[] sun = s.sunOf(hour);
        return trace(s, s.gapX, s.gapY, sun[0], sun[1]);
    }

    static List<Integer> blind(State s, Trace t) {
        List<Integer> cells = new ArrayList<>();
        for (int y = 0; y < s.rows; y++) {
            for (int x = 0; x < s.columns; x++) {
                if (s.eyes[y][x] >= 0 && t.passes.getOrDefault(24 * y + x, 0) > s.eyes[y][x]) cells.add(24 * y + x);
            }
        }
        return cells;
    }

    // ---- laws, as trees

    static final class Fault extends RuntimeException {
        private static final long serialVersionUID = 1L;
        final int n;

        Fault(int place, int kind) {
            n = 1 + 8 * place + kind;
        }
    }

    interface Node {
        long value(Now now);
    }

    static final class Now {
        State s;
        int hour;
        Mirror mirror;
        int[] got;
    }

    record Clause(int mirror, Node sum, Node test) { }

    static final class Parser {
        final String text;
        int at;
        int values;

        Parser(String text) {
            this.text = text;
        }

        void blanks() {
            while (at < text.length() && text.charAt(at) == ' ') at++;
        }

        /** The token at this place, without going over it; empty at the end. */
        String look() {
            blanks();
            if (at == text.length()) return "";
            int to = at;
            while (to < text.length() && Character.toString(text.charAt(to)).matches("[a-z]")) to++;
            if (to == at) while (to < text.length() && Character.toString(text.charAt(to)).matches("[0-9]")) to++;
            if (to > at) return text.substring(at, to);
            if (text.startsWith("<=", at) || text.startsWith(">=", at)) return text.substring(at, at + 2);
            return text.substring(at, at + 1);
        }

        boolean accept(String token) {
            if (!look().equals(token)) return false;
            at += token.length();
            return true;
        }

        void need(String token) {
            if (!accept(token)) throw new Fault(at, 0);
        }

        List<Clause> law() {
            List<Clause> clauses = new ArrayList<>();
            do {
                if (look().equals("turn") && clauses.size() == 12) throw new Fault(at, 4);
                need("turn");
                int mirror = (int) number(23);
                Node sum = sum();
                Node test = accept("if") ? test(0) : null;
                clauses.add(new Clause(mirror, sum, test));
            } while (accept(";"));
            if (!look().isEmpty()) throw new Fault(at, 0);
            return clauses;
        }

        long number(long most) {
            String token = look();
            if (!token.matches("[0-9]+")) throw new Fault(at, 0);
            if (token.length() > 5 || Long.parseLong(token) > most) throw new Fault(at, 1);
            at += token.length();
            return Long.parseLong(token);
        }

        Node test(int depth) {
            Node left = part(depth);
            while (accept("or")) {
                Node a = left, b = part(depth);
                left = now -> a.value(now) + b.value(now) > 0 ? 1 : 0;
            }
            return left;
        }

        Node part(int depth) {
            Node left = fact(depth);
            while (accept("and")) {
                Node a = left, b = fact(depth);
                left = now -> a.value(now) * b.value(now);
            }
            return left;
        }

        Node fact(int depth) {
            String token = look();
            if (token.equals("not") || token.equals("[")) {
                if (depth == 10) throw new Fault(at, 2);
                accept(token);
                if (token.equals("not")) {
                    Node a = fact(depth + 1);
                    return now -> a.value(now) == 0 ? 1 : 0;
                }
                Node a = test(depth + 1);
                need("]");
                return a;
            }
            Node a = sum();
            String sign = look();
            if (!List.of("<", "<=", "=", ">=", ">").contains(sign)) throw new Fault(at, 0);
            countOne();
            accept(sign);
            Node b = sum();
            return now -> {
                int c = Long.compare(a.value(now), b.value(now));
                return (c < 0 ? sign.startsWith("<") : c > 0 ? sign.startsWith(">") : sign.endsWith("=")) ? 1 : 0;
            };
        }

        void countOne() {
            if (values == 60) throw new Fault(at, 3);
            values++;
        }

        Node sum() {
            Node left = term();
            while (true) {
                Node a = left;
                if (accept("+")) {
                    Node b = term();
                    left = now -> a.value(now) + b.value(now);
                } else if (accept("-")) {
                    Node b = term();
                    left = now -> a.value(now) - b.value(now);
                } else {
                    return left;
                }
            }
        }

        Node term() {
            Node left = value();
            while (true) {
                Node a = left;
                if (accept("*")) {
                    Node b = value();
                    left = now -> a.value(now) * b.value(now);
                } else if (accept("/")) {
                    Node b = value();
                    left = now -> {
                        long by = b.value(now);
                        return by == 0 ? 0 : a.value(now) / by;
                    };
                } else {
                    return left;
                }
            }
        }

        Node value() {
            String token = look();
            if (token.matches("[0-9]+")) {
                int place = at;
                long n = number(99999);
                at = place;
                countOne();
                accept(token);
                return now -> n;
            }
            if (!token.matches("hour|month|day|slant|sun|[a-h]")) throw new Fault(at, 0);
            countOne();
            accept(token);
            switch (token) {
                case "hour": return now -> now.hour;
                case "month": return now -> now.s.month;
                case "day": return now -> now.s.day;
                case "slant": return now -> now.mirror.slant;
                case "sun": return now -> now.s.sunOf(now.hour) == null ? 8 : now.s.sunOf(now.hour)[0];
                default: return now -> now.got[token.charAt(0) - 'a'];
            }
        }
    }

    static int wantedStep(int slant, int wanted, int reach) {
        int up = 0;
        while ((slant + up) % 8 != wanted) up++;
        int down = 0;
        while ((slant - down + 8) % 8 != wanted) down++;
        return up <= down ? Math.min(up, reach) : -Math.min(down, reach);
    }

    /** A day by a law: how many of its hours had a blind cell. */
    static int day(State s, List<Clause> law) {
        int[] got = new int[8];
        int blindHours = 0;
        for (int hour = 0; hour < 24; hour++) {
            for (int i = 0; i < s.mirrors.size(); i++) {
                Now now = new Now();
                now.s = s;
                now.hour = hour;
                now.mirror = s.mirrors.get(i);
                now.got = got;
                for (Clause c : law) {
                    if (c.mirror == i && (c.test == null || c.test.value(now) != 0)) {
                        int wanted = (int) Math.floorMod(c.sum.value(now), 8L);
                        now.mirror.slant = Math.floorMod(
                                now.mirror.slant + wantedStep(now.mirror.slant, wanted, now.mirror.reach), 8);
                        break;
                    }
                }
            }
            if (s.sunOf(hour) != null) {
                Trace t = trace(s, hour);
                for (int i = 0; i < 8; i++) got[i] += t.got[i];
                if (!blind(s, t).isEmpty()) blindHours++;
            }
        }
        for (Mirror m : s.mirrors) m.dust = Math.min(1000, m.dust + s.fall);
        for (int i = 0; i < s.yards.size(); i++) s.yards.get(i).light = got[i];
        s.day++;
        return blindHours;
    }

    // ---- the face

    State s;
    final State[] images = new State[4];
    final List<List<Clause>> laws = new ArrayList<>();
    String tape = "";

    static boolean within(int n, int least, int most) {
        return least <= n && n <= most;
    }

    boolean town(int columns, int rows, int x, int y, int air) {
        if (!within(columns, 4, 24) || !within(rows, 4, 24) || !within(air, 0, 1000)) return false;
        if (!within(x, 0, columns - 1) || !within(y, 0, rows - 1)) return false;
        s = new State();
        s.columns = columns; s.rows = rows; s.gapX = x; s.gapY = y; s.air = air;
        s.rock = new boolean[rows][columns];
        s.eyes = new int[rows][columns];
        for (int[] row : s.eyes) Arrays.fill(row, -1);
        return true;
    }

    boolean rectangle(int x, int y, int toX, int toY) {
        return s != null && s.in(x, y) && s.in(toX, toY) && toX >= x && toY >= y;
    }

    int rock(int x, int y, int toX, int toY, boolean is) {
        if (!rectangle(x, y, toX, toY)) return -1;
        int n = 0;
        for (int cy = y; cy <= toY; cy++) {
            for (int cx = x; cx <= toX; cx++) {
                if (s.rock[cy][cx] != is) n++;
                s.rock[cy][cx] = is;
            }
        }
        return n;
    }

    boolean sun(int month, int hour, int way, int strength) {
        if (s == null || !within(month, 0, 11) || !within(hour, 0, 23)) return false;
        if (way == -1 && strength == 0) {
            s.sun.remove(month * 24 + hour);
            return true;
        }
        if (!within(way, 0, 7) || !within(strength, 0, 99999)) return false;
        s.sun.put(month * 24 + hour, new int[] {way, strength});
        return true;
    }

    int mirror(int x, int y, int slant, int loss, int through, int reach, int owner) {
        if (s == null || s.mirrors.size() == 24 || !s.in(x, y) || s.mirrorAt(x, y) != null) return -1;
        if (!within(slant, 0, 7) || !within(loss, 0, 1000) || !within(through, 0, 1000)) return -1;
        if (!within(reach, 0, 4) || !within(owner, 0, 9)) return -1;
        Mirror m = new Mirror();
        m.x = x; m.y = y; m.slant = slant; m.loss = loss; m.through = through; m.reach = reach; m.owner = owner;
        s.mirrors.add(m);
        return s.mirrors.size() - 1;
    }

    Mirror find(int mirror) {
        return s != null && within(mirror, 0, s.mirrors.size() - 1) ? s.mirrors.get(mirror) : null;
    }

    Yard findYard(int yard) {
        return s != null && within(yard, 0, s.yards.size() - 1) ? s.yards.get(yard) : null;
    }

    boolean lit(int hour) {
        return s != null && within(hour, 0, 23) && s.sunOf(hour) != null;
    }

    int sets(int mirror, int what, int n) {
        Mirror m = find(mirror);
        if (m == null) return -2;
        int was;
        if (what == 0 && within(n, 0, 7)) {
            was = m.slant;
            m.slant = n;
        } else if (what == 1 && within(n, 0, 1000)) {
            was = m.dust;
            m.dust = n;
        } else if (what == 2 && within(n, 0, 1)) {
            was = m.broken ? 1 : 0;
            m.broken = n == 1;
        } else if (what == 3 && within(n, -1, 99999)) {
            was = m.reading;
            m.reading = n;
        } else {
            was = -2;
        }
        return was;
    }

    int yard(int x, int y, int toX, int toY, int take, int want) {
        if (!rectangle(x, y, toX, toY) || s.yards.size() == 8) return -1;
        if (!within(take, 1, 1000) || !within(want, 0, 9999999)) return -1;
        Yard d = new Yard();
        d.x = x; d.y = y; d.toX = toX; d.toY = toY; d.take = take; d.want = want;
        s.yards.add(d);
        return s.yards.size() - 1;
    }

    int eyes(int x, int y, int bound) {
        if (s == null || !s.in(x, y) || !within(bound, -1, 99999)) return -2;
        int was = s.eyes[y][x];
        s.eyes[y][x] = bound;
        return was;
    }

    int month(int n) {
        if (s == null || !within(n, 0, 11)) return -1;
        int was = s.month;
        s.month = n;
        return was;
    }

    int falls(int n) {
        if (s == null || !within(n, 0, 99)) return -1;
        int was = s.fall;
        s.fall = n;
        return was;
    }

    int feed(int a, int b, int c, int d, int e) {
        if (tape.length() + 20 > 400) return -1;
        StringBuilder more = new StringBuilder(tape);
        for (int n : new int[] {a, b, c, d, e}) {
            for (int i = 3; i >= 0; i--) more.append((char) (n >> 8 * i & 255));
        }
        tape = more.toString();
        return tape.length();
    }

    int end(int n) {
        if (!within(n, 0, tape.length())) return -1;
        tape = tape.substring(0, n);
        return n;
    }

    int law() {
        if (laws.size() == 6) return -1;
        String text = tape;
        tape = "";
        try {
            laws.add(new Parser(text).law());
            return laws.size() - 1;
        } catch (Fault f) {
            return -2 - f.n;
        }
    }

    boolean hasLaw(int law) {
        return within(law, 0, laws.size() - 1);
    }

    int days(int law, int n) {
        if (s == null || !hasLaw(law) || !within(n, 1, 30) || s.day + n > 9999) return -1;
        for (int i = 0; i < n; i++) day(s, laws.get(law));
        return s.met();
    }

    int mirrors(int mirror, int what) {
        Mirror m = find(mirror);
        if (m == null || !within(what, 0, 9)) return -2;
        return new int[] {m.x, m.y, m.slant, m.loss, m.through, m.reach, m.owner, m.dust, m.broken ? 1 : 0,
            m.reading}[what];
    }

    int yards(int yard, int what) {
        Yard d = findYard(yard);
        if (d == null || !within(what, 0, 6)) return -1;
        return new int[] {d.light, d.want, d.take, d.x, d.y, d.toX, d.toY}[what];
    }

    int cell(int x, int y, int what) {
        if (s == null || !s.in(x, y) || !within(what, 0, 3)) return -2;
        return new int[] {s.rock[y][x] ? 1 : 0, s.eyes[y][x], s.mirrors.indexOf(s.mirrorAt(x, y)),
            s.yardAt(x, y)}[what];
    }

    int gets(int hour, int yard) {
        return !lit(hour) || findYard(yard) == null ? -1 : trace(s, hour).got[yard];
    }

    int light(int hour, int what) {
        if (!lit(hour) || !within(what, 0, 6)) return -1;
        Trace t = trace(s, hour);
        List<Integer> blind = blind(s, t);
        return new int[] {t.all(), t.lost, t.spilt, t.cells, t.beams, blind.size(),
            blind.isEmpty() ? -2 : blind.get(0)}[what];
    }

    int passes(int hour, int x, int y) {
        return !lit(hour) || !s.in(x, y) ? -1 : trace(s, hour).passes.getOrDefault(24 * y + x, 0);
    }

    int sees(int hour, int mirror) {
        if (!lit(hour) || find(mirror) == null) return -1;
        State other = s.copy();
        other.mirrors.get(mirror).slant = (other.mirrors.get(mirror).slant + 1) % 8;
        int bits = 0;
        for (int i = 0; i < 8; i++) if (trace(s, hour).got[i] != trace(other, hour).got[i]) bits += 1 << i;
        return bits;
    }

    int worth(int hour, int mirror) {
        if (!lit(hour) || find(mirror) == null) return -1000000;
        State other = s.copy();
        other.mirrors.get(mirror).broken = true;
        return trace(s, hour).all() - trace(other, hour).all();
    }

    int owned(int hour, int owner) {
        if (!lit(hour) || !within(owner, 0, 9)) return -1000000;
        State other = s.copy();
        for (Mirror m : other.mirrors) if (m.owner == owner) m.broken = true;
        return trace(s, hour).all() - trace(other, hour).all();
    }

    interface Score {
        int of(State s, Trace t);
    }

    int best(int hour, int mirrors, int k, Score score) {
        List<Integer> set = new ArrayList<>();
        for (int i = 0; i < 32; i++) if ((mirrors >>> i & 1) == 1) set.add(i);
        if (set.isEmpty() || set.size() > 4 || !within(k, -1, set.size() - 1)) return -1;
        if (set.get(set.size() - 1) >= s.mirrors.size()) return -1;
        State other = s.copy();
        int[] bestSlants = null;
        int most = 0;
        int combinations = 1 << 3 * set.size();
        for (int c = 0; c < combinations; c++) {
            int[] slants = new int[set.size()];
            for (int i = 0; i < set.size(); i++) {
                slants[i] = c >> 3 * (set.size() - 1 - i) & 7;
                other.mirrors.get(set.get(i)).slant = slants[i];
            }
            int now = score.of(other, trace(other, hour));
            if (bestSlants == null || now > most) {
                most = now;
                bestSlants = slants;
            }
        }
        return k == -1 ? most : bestSlants[k];
    }

    int aim(int hour, int yard, int mirrors, int k) {
        if (!lit(hour) || findYard(yard) == null) return -1;
        return best(hour, mirrors, k, (st, t) -> t.got[yard]);
    }

    int fair(int hour, int mirrors, int k) {
        if (!lit(hour) || s.yards.isEmpty()) return -1;
        boolean anyWants = s.yards.stream().anyMatch(d -> d.want > 0);
        return best(hour, mirrors, k, (st, t) -> {
            int least = Integer.MAX_VALUE;
            for (int i = 0; i < st.yards.size(); i++) {
                if (!anyWants || st.yards.get(i).want > 0) least = Math.min(least, t.got[i]);
            }
            return least;
        });
    }

    static boolean isHalf(int[] now, int[] then) {
        for (int i = 0; i < 8; i++) if (then[i] < now[i] / 2) return false;
        return true;
    }

    int[] mending(int hour, int mirror) {
        int[] now = trace(s, hour).got;
        State o = s.copy();
        o.mirrors.get(mirror).broken = true;
        if (isHalf(now, trace(o, hour).got)) return new int[] {0, -2, -2, -2, -2};
        int n = o.mirrors.size();
        for (int i = 0; i < n; i++) {
            Mirror a = o.mirrors.get(i);
            int was = a.slant;
            for (int p = 0; p < 8 && !a.broken; p++) {
                a.slant = p;
                if (p != was && isHalf(now, trace(o, hour).got)) return new int[] {1, i, p, -2, -2};
            }
            a.slant = was;
        }
        for (int i = 0; i < n; i++) {
            for (int j = i + 1; j < n; j++) {
                Mirror a = o.mirrors.get(i), b = o.mirrors.get(j);
                int wasA = a.slant, wasB = b.slant;
                for (int p = 0; p < 8 && !a.broken && !b.broken; p++) {
                    for (int q = 0; q < 8; q++) {
                        a.slant = p;
                        b.slant = q;
                        if (p != wasA && q != wasB && isHalf(now, trace(o, hour).got)) {
                            return new int[] {2, i, p, j, q};
                        }
                    }
                }
                a.slant = wasA;
                b.slant = wasB;
            }
        }
        return new int[] {-2, -2, -2, -2, -2};
    }

    int mends(int hour, int mirror, int what) {
        return !lit(hour) || find(mirror) == null || !within(what, 0, 4) ? -1 : mending(hour, mirror)[what];
    }

    int second(int hour, int what) {
        if (!lit(hour) || !within(what, 0, 2)) return -1;
        int[] best = {-2, -2, -2};
        for (int y = 0; y < s.rows; y++) {
            for (int x = 0; x < s.columns; x++) {
                if (x > 0 && y > 0 && x < s.columns - 1 && y < s.rows - 1) continue;
                if (s.rock[y][x] || x == s.gapX && y == s.gapY) continue;
                for (int way = 0; way < 8; way++) {
                    if (!s.in(x + DX[way], y + DY[way])) continue;
                    int all = trace(s, x, y, way, s.sunOf(hour)[1]).all();
                    if (all > best[2]) best = new int[] {24 * y + x, way, all};
                }
            }
        }
        return best[what];
    }

    int thief(int hour, int what) {
        if (!lit(hour) || !within(what, 0, 2)) return -1;
        int[] sun = s.sunOf(hour);
        Trace t = trace(s, hour);
        for (int i = 0; i < t.firstMirrors.size(); i++) {
            int number = t.firstMirrors.get(i);
            int comes = t.firstComes.get(i);
            int read = s.mirrors.get(number).reading;
            if (read < 0 || read >= comes) continue;
            Trace less = traceWithTheft(s, s.gapX, s.gapY, sun[0], sun[1], number, comes - read);
            boolean explains = true;
            for (int j = i + 1; j < t.firstMirrors.size(); j++) {
                int readThere = s.mirrors.get(t.firstMirrors.get(j)).reading;
                int would = j < less.firstComes.size() ? less.firstComes.get(j) : 0;
                if (readThere >= 0 && readThere != would) explains = false;
            }
            return new int[] {number, comes - read, explains ? 1 : 0}[what];
        }
        return new int[] {-2, 0, 0}[what];
    }

    int dusty(int hour, int mirror, int yard, int light) {
        if (!lit(hour) || find(mirror) == null || findYard(yard) == null || !within(light, 0, 9999999)) return -1;
        State other = s.copy();
        for (int dust = 0; dust <= 1000; dust++) {
            other.mirrors.get(mirror).dust = dust;
            if (trace(other, hour).got[yard] <= light) return dust;
        }
        return -2;
    }

    int dark(int law, int yard, int bound) {
        if (!hasLaw(law) || findYard(yard) == null || bound < 0) return -1;
        int bits = 0;
        for (int month = 0; month < 12; month++) {
            State other = s.copy();
            other.month = month;
            day(other, laws.get(law));
            if (other.yards.get(yard).light < bound) bits += 1 << month;
        }
        return bits;
    }

    int ahead(int law, int n, int what) {
        if (s == null || !hasLaw(law) || !within(n, 1, 10) || !within(what, -2, s.yards.size() - 1)) return -3;
        State other = s.copy();
        int blindHours = 0;
        for (int i = 0; i < n; i++) blindHours += day(other, laws.get(law));
        return what == -2 ? other.met() : what == -1 ? blindHours : other.yards.get(what).light;
    }

    int count(int what) {
        if (what == 8) return laws.size();
        if (what == 9) return tape.length();
        if (s == null || !within(what, 0, 7)) return -1;
        return new int[] {s.columns, s.rows, s.mirrors.size(), s.yards.size(), s.month, s.day, s.met(), s.fall}[what];
    }

    int image(int k) {
        if (s == null || !within(k, 0, 3)) return -1;
        images[k] = s.copy();
        return s.day;
    }

    int back(int k) {
        if (!within(k, 0, 3) || images[k] == null) return -1;
        s = images[k].copy();
        return s.day;
    }
}
