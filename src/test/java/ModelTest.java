import java.util.Random;

/** Runs of chosen calls, in which the class must answer as the model does. */
public final class ModelTest {
    private final Random random;
    private final LawTexts texts;
    private final Both both = new Both();
    private int columns;
    private int rows;
    private int mirrorCount;
    private boolean isDense;

    private ModelTest(long seed) {
        // Seeds that lie side by side begin alike, so they are strewn.
        random = new Random((seed + 1) * 0x9E3779B97F4A7C15L);
        texts = new LawTexts(random);
    }

    public static void main(String[] arguments) {
        long from = arguments.length > 0 ? Long.parseLong(arguments[0]) : 0;
        long runs = arguments.length > 1 ? Long.parseLong(arguments[1]) : 1000;
        for (long seed = from; seed < from + runs; seed++) {
            new ModelTest(seed).run();
        }
        System.out.println(Both.calls + " calls, " + Both.wrong + " runs wrong");
        if (Both.wrong != 0) System.exit(1);
    }

    private void run() {
        buildTown();
        for (int i = random.nextInt(4); i > 0; i--) makeLaw();
        int calls = 120;
        for (int i = 0; i < calls && !both.isParted; i++) {
            if (random.nextInt(4) == 0) change();
            else ask();
        }
    }

    private int pick(int bound) {
        return random.nextInt(bound);
    }

    private int thousandths() {
        int kind = pick(6);
        return kind == 0 ? 0 : kind == 1 ? 1000 : kind == 2 ? pick(1001) : pick(300);
    }

    private void buildTown() {
        isDense = pick(8) == 0;
        columns = 4 + pick(isDense ? 3 : pick(4) == 0 ? 21 : 6);
        rows = 4 + pick(isDense ? 3 : pick(4) == 0 ? 21 : 6);
        int gapX = isDense ? 1 + pick(2) : pick(2) == 0 ? 0 : pick(columns);
        int gapY = pick(rows);
        both.call("town", columns, rows, gapX, gapY, isDense || pick(2) == 0 ? 0 : pick(4) == 0 ? thousandths() : pick(50));
        for (int i = 6 + pick(30); i > 0; i--) sun();
        for (int i = pick(4); i > 0; i--) rock();
        int mirrors = isDense ? pick(2) == 0 ? pick(6) : 60 : pick(10);
        mirrorCount = 0;
        if (isDense) {
            both.call("mirror", 0, gapY, 4, pick(2), pick(60), pick(5), 0);
            both.call("mirror", columns - 1, gapY, 4, pick(2), pick(60), pick(5), 1);
            mirrorCount = 2;
        }
        for (int i = 0; i < mirrors; i++) mirror();
        for (int i = pick(5); i > 0; i--) yard();
        for (int i = pick(4); i > 0; i--) eyes();
    }

    /** Mostly a cell that light passes in some hour. */
    private int cell() {
        int hour = hour();
        if (pick(5) > 0 && both.model.lit(hour)) {
            Integer[] passed = Model.trace(both.model.s, hour).passes.keySet().toArray(new Integer[0]);
            if (passed.length > 0) return passed[pick(passed.length)];
        }
        return 24 * pick(rows) + pick(columns);
    }

    private void rock() {
        int x = pick(columns), y = pick(rows);
        both.call("rock", x, y, x + pick(3), y + pick(3), pick(4) > 0);
    }

    private void eyes() {
        int cell = cell();
        both.call("eyes", cell % 24, cell / 24, pick(4) == 0 ? -1 : pick(pick(2) == 0 ? 5000 : 100));
    }

    private void mirror() {
        // Slant 4 sends light of the ways 0 and 4 back: beams between two such mirrors reach the limits.
        int slant = isDense && pick(5) > 0 ? 4 : pick(8);
        int loss = isDense ? pick(3) : thousandths();
        int through = isDense ? 1 + pick(pick(2) == 0 ? 100 : 900) : pick(2) == 0 ? 0 : thousandths();
        int cell = cell();
        int made = both.call("mirror", cell % 24, cell / 24, slant, loss, through, pick(5), pick(4));
        mirrorCount = Math.max(mirrorCount, made + 1);
    }

    private void yard() {
        int cell = cell();
        int x = cell % 24, y = cell / 24;
        int take = isDense ? 1 + pick(30) : 1 + Math.min(999, thousandths());
        both.call("yard", x, y, Math.min(columns - 1, x + pick(3)), Math.min(rows - pick(2), y + pick(3)), take, pick(3) == 0 ? 0 : pick(20000));
    }

    private void sun() {
        sunAt(pick(3) == 0 ? pick(12) : 0, pick(24));
    }

    private void sunAt(int month, int hour) {
        int strength = pick(10) == 0 ? pick(3) : pick(5) == 0 ? 99999 - pick(10) : pick(20000);
        if (pick(12) == 0) both.call("sun", month, hour, -1, 0);
        else both.call("sun", month, hour, inwards(), strength);
    }

    private int inwards() {
        if (isDense && pick(4) > 0) return 4 * pick(2);
        for (int i = 0; i < 6; i++) {
            int way = pick(8);
            Model.State s = both.model.s;
            if (s.in(s.gapX + 2 * Model.DX[way], s.gapY + 2 * Model.DY[way])) return way;
        }
        return pick(8);
    }

    private void makeLaw() {
        both.feedText(texts.text());
        both.call("law");
    }

    private void change() {
        switch (pick(16)) {
            case 0: rock(); break;
            case 1: case 2: sun(); break;
            case 3: mirror(); break;
            case 4: yard(); break;
            case 5: eyes(); break;
            case 6: both.call("month", pick(4) == 0 ? pick(13) : 0); break;
            case 7: both.call("falls", pick(101)); break;
            case 8: makeLaw(); break;
            case 9: both.call("days", pick(4), 1 + pick(pick(8) == 0 ? 30 : 3)); break;
            case 10: both.call("image", pick(4)); break;
            case 11: both.call("back", pick(4)); break;
            case 12: if (pick(12) == 0) buildTown(); break;
            default: set(); break;
        }
    }

    private void set() {
        int what = pick(4);
        int mirror = pick(mirrorCount + 1);
        int n = what == 0 ? pick(8) : what == 1 ? thousandths() : what == 2 ? (pick(3) == 0 ? 1 : 0) : reading(mirror);
        both.call("sets", mirror, what, n);
    }

    /** Mostly what comes or would come there, so that a theft may explain all. */
    private int reading(int mirror) {
        int hour = pick(24);
        if (!both.model.lit(hour) || pick(4) == 0) return pick(2000) - 1;
        int[] sun = both.model.s.sunOf(hour);
        Model.Trace t = Model.traceWithTheft(both.model.s, both.model.s.gapX, both.model.s.gapY, sun[0], sun[1],
                0, both.model.mirrors(0, 9) >= 0 ? 1 : 0);
        int at = t.firstMirrors.indexOf(mirror);
        return at < 0 ? 0 : Math.max(-1, t.firstComes.get(at) - pick(2) * pick(10));
    }

    private int hour() {
        for (int i = 0; i < 6; i++) {
            int hour = pick(24);
            if (both.model.lit(hour)) return hour;
        }
        return pick(24);
    }

    private void ask() {
        int mirror = pick(Math.max(1, mirrorCount));
        int yard = pick(1 + both.model.s.yards.size());
        switch (pick(22)) {
            case 0: both.call("gets", hour(), yard); break;
            case 1: case 2: both.call("light", hour(), pick(7)); break;
            case 3: int cell = cell(); both.call("passes", hour(), cell % 24, cell / 24); break;
            case 4: both.call("sees", hour(), mirror); break;
            case 5: both.call("worth", hour(), mirror); break;
            case 6: both.call("owned", hour(), pick(4)); break;
            case 7: both.call("aim", hour(), yard, set(mirror), pick(4) - 1); break;
            case 8: both.call("fair", hour(), set(mirror), pick(4) - 1); break;
            case 9: case 10: mends(mirror); break;
            case 11: both.call("second", hour(), pick(3)); break;
            case 12: case 13: both.call("thief", hour(), pick(3)); break;
            case 14: dusty(mirror, yard); break;
            case 15: both.call("dark", pick(3), yard, pick(3) == 0 ? pick(100000) : pick(5000) - 50); break;
            case 16: both.call("ahead", pick(3), 1 + pick(4), pick(5) - 2); break;
            case 17: both.call("count", pick(10)); break;
            case 18: both.call("mirrors", mirror, pick(10)); break;
            case 19: both.call("yards", yard, pick(7)); break;
            case 20: both.call("cell", pick(columns), pick(rows), pick(4)); break;
            default: theft(); break;
        }
    }

    private int set(int mirror) {
        int set = 1 << mirror;
        for (int i = pick(isDense && pick(5) > 0 ? 2 : 4); i > 0; i--) set |= 1 << pick(Math.max(1, mirrorCount));
        return set;
    }

    private void mends(int mirror) {
        if (isDense && pick(10) > 0) return;
        int hour = hour();
        for (int what = 0; what < 5; what++) both.call("mends", hour, mirror, what);
    }

    private void dusty(int mirror, int yard) {
        int hour = hour();
        int gets = both.model.gets(hour, yard);
        both.call("dusty", hour, mirror, yard, gets <= 0 ? pick(100) : pick(gets + 1));
    }

    /** Reads of one hour along the first beam, from a mirror on with something gone. */
    private void theft() {
        int hour = hour();
        if (!both.model.lit(hour)) return;
        int[] sun = both.model.s.sunOf(hour);
        Model.Trace t = Model.trace(both.model.s, hour);
        if (t.firstMirrors.isEmpty()) return;
        int at = pick(t.firstMirrors.size());
        int gone = pick(t.firstComes.get(at) + 1);
        Model.Trace less = Model.traceWithTheft(both.model.s, both.model.s.gapX, both.model.s.gapY, sun[0], sun[1],
                t.firstMirrors.get(at), gone);
        for (int i = 0; i < t.firstMirrors.size(); i++) {
            int would = i < less.firstComes.size() ? less.firstComes.get(i) : 0;
            int reads = i == at ? would - gone : would;
            if (pick(12) == 0) reads++;
            both.call("sets", t.firstMirrors.get(i), 3, pick(6) == 0 ? -1 : reads);
        }
        for (int what = 0; what < 3; what++) both.call("thief", hour, what);
    }
}
