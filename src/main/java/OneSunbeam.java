import java.util.Arrays;

/** A town lit by one sunbeam: the document says, promise by promise, what each call answers. */
public final class OneSunbeam {
    public static final int NONE = -1;

    // What calls answer when they are refused, where NONE is an answer of theirs.
    private static final int REFUSED = -2;
    private static final int REFUSED_AHEAD = -3;
    private static final int REFUSED_WORTH = -1000000;

    private static final int LEAST_SIDE = 4;
    private static final int MOST_SIDE = 24;
    private static final int ALL_CELLS = 576;
    private static final int MONTHS = 12;
    private static final int HOURS = 24;
    private static final int WAYS = 8;
    private static final int MOST_MIRRORS = 24;
    private static final int MOST_YARDS = 8;
    private static final int MOST_IMAGES = 4;
    private static final int MOST_LAWS = 6;
    private static final int MOST_BYTES = 400;
    private static final int MOST_SET = 4;

    private static final int WHOLE = 1000;
    private static final int MOST_LIGHT = 99999;
    private static final int MOST_WANT = 9999999;
    private static final int MOST_REACH = 4;
    private static final int MOST_OWNER = 9;
    private static final int MOST_FALL = 99;
    private static final int MOST_DAY = 9999;
    private static final int MOST_DAYS = 30;
    private static final int MOST_AHEAD = 10;
    private static final int FEED = 20;

    // The rows of the table of mirrors, numbered as mirrors() asks for them.
    private static final int MIRROR_X = 0;
    private static final int MIRROR_Y = 1;
    private static final int SLANT = 2;
    private static final int LOSS = 3;
    private static final int THROUGH = 4;
    private static final int REACH = 5;
    private static final int OWNER = 6;
    private static final int DUST = 7;
    private static final int BROKEN = 8;
    private static final int READING = 9;
    private static final int MIRROR_ROWS = 10;

    // The rows of the table of yards, numbered as yards() asks for them.
    private static final int LIGHT = 0;
    private static final int WANT = 1;
    private static final int TAKE = 2;
    private static final int LEFT = 3;
    private static final int TOP = 4;
    private static final int RIGHT = 5;
    private static final int BOTTOM = 6;
    private static final int YARD_ROWS = 7;

    private static final int[] STEP_X = {1, 1, 0, -1, -1, -1, 0, 1};
    private static final int[] STEP_Y = {0, 1, 1, 1, 0, -1, -1, -1};

    private final Town town;
    private final Town trial;
    private final Town[] images;
    private final Beams beams;
    private final Keepers keepers;
    private final Aiming aiming;
    private final Mending mending;
    private final Opening opening;
    private final Theft theft;
    private final LawReader reader;
    private final Law[] laws;
    private final byte[] tape;
    private final int[] gotNow;
    private Law draft;
    private int lawCount;
    private int tapeLength;

    public OneSunbeam() {
        town = new Town();
        trial = new Town();
        images = new Town[MOST_IMAGES];
        beams = new Beams();
        keepers = new Keepers(beams);
        aiming = new Aiming(beams);
        mending = new Mending(town, beams);
        opening = new Opening(beams);
        theft = new Theft();
        reader = new LawReader();
        laws = new Law[MOST_LAWS];
        tape = new byte[MOST_BYTES];
        gotNow = new int[MOST_YARDS];
        draft = new Law();
    }

    public boolean town(int columns, int rows, int x, int y, int air) {
        if (!isWithin(columns, LEAST_SIDE, MOST_SIDE) || !isWithin(rows, LEAST_SIDE, MOST_SIDE)) {
            return false;
        }
        if (!isWithin(x, 0, columns - 1) || !isWithin(y, 0, rows - 1) || !isWithin(air, 0, WHOLE)) {
            return false;
        }
        town.begin(columns, rows, x, y, air);
        return true;
    }

    public int rock(int x, int y, int toX, int toY, boolean is) {
        if (!town.hasRectangle(x, y, toX, toY)) {
            return NONE;
        }
        return town.setRock(x, y, toX, toY, is ? 1 : 0);
    }

    public boolean sun(int month, int hour, int way, int strength) {
        if (!town.isBegun() || !isWithin(month, 0, MONTHS - 1) || !isWithin(hour, 0, HOURS - 1)) {
            return false;
        }
        boolean isDark = way == NONE && strength == 0;
        if (!isDark && (!isWithin(way, 0, WAYS - 1) || !isWithin(strength, 0, MOST_LIGHT))) {
            return false;
        }
        town.sunWay[month * HOURS + hour] = way;
        town.sunStrength[month * HOURS + hour] = strength;
        return true;
    }

    public int mirror(int x, int y, int slant, int loss, int through, int reach, int owner) {
        if (!town.hasCell(x, y) || town.mirrorAt[cellOf(x, y)] != NONE || town.mirrorCount >= MOST_MIRRORS) {
            return NONE;
        }
        if (!isWithin(slant, 0, WAYS - 1) || !isWithin(loss, 0, WHOLE) || !isWithin(through, 0, WHOLE)
                || !isWithin(reach, 0, MOST_REACH) || !isWithin(owner, 0, MOST_OWNER)) {
            return NONE;
        }
        int made = town.addMirror(x, y);
        town.setMirror(made, SLANT, slant);
        town.setMirror(made, LOSS, loss);
        town.setMirror(made, THROUGH, through);
        town.setMirror(made, REACH, reach);
        town.setMirror(made, OWNER, owner);
        return made;
    }

    public int sets(int mirror, int what, int n) {
        if (!town.hasMirror(mirror)) {
            return REFUSED;
        }
        switch (what) {
            case 0:
                return changeMirror(mirror, SLANT, n, isWithin(n, 0, WAYS - 1));
            case 1:
                return changeMirror(mirror, DUST, n, isWithin(n, 0, WHOLE));
            case 2:
                return changeMirror(mirror, BROKEN, n, isWithin(n, 0, 1));
            case 3:
                return changeMirror(mirror, READING, n, isWithin(n, NONE, MOST_LIGHT));
            default:
                return REFUSED;
        }
    }

    public int yard(int x, int y, int toX, int toY, int take, int want) {
        if (!town.hasRectangle(x, y, toX, toY) || town.yardCount >= MOST_YARDS) {
            return NONE;
        }
        if (!isWithin(take, 1, WHOLE) || !isWithin(want, 0, MOST_WANT)) {
            return NONE;
        }
        int made = town.addYard(x, y, toX, toY);
        town.setYard(made, TAKE, take);
        town.setYard(made, WANT, want);
        return made;
    }

    public int eyes(int x, int y, int bound) {
        if (!town.hasCell(x, y) || !isWithin(bound, NONE, MOST_LIGHT)) {
            return REFUSED;
        }
        int before = town.eyes[cellOf(x, y)];
        town.eyes[cellOf(x, y)] = bound;
        return before;
    }

    public int month(int n) {
        if (!town.isBegun() || !isWithin(n, 0, MONTHS - 1)) {
            return NONE;
        }
        int before = town.month;
        town.month = n;
        return before;
    }

    public int falls(int n) {
        if (!town.isBegun() || !isWithin(n, 0, MOST_FALL)) {
            return NONE;
        }
        int before = town.fall;
        town.fall = n;
        return before;
    }

    public int feed(int a, int b, int c, int d, int e) {
        if (tapeLength > MOST_BYTES - FEED) {
            return NONE;
        }
        putOnTape(a);
        putOnTape(b);
        putOnTape(c);
        putOnTape(d);
        putOnTape(e);
        return tapeLength;
    }

    public int end(int n) {
        if (!isWithin(n, 0, tapeLength)) {
            return NONE;
        }
        tapeLength = n;
        return n;
    }

    public int law() {
        if (lawCount >= MOST_LAWS) {
            return NONE;
        }
        int fault = reader.read(tape, tapeLength, draft);
        tapeLength = 0;
        if (fault != 0) {
            return -2 - fault;
        }
        laws[lawCount] = draft;
        draft = new Law();
        lawCount++;
        return lawCount - 1;
    }

    public int days(int law, int n) {
        Law rule = findLaw(law);
        if (rule == null || !town.isBegun() || !isWithin(n, 1, MOST_DAYS) || town.day > MOST_DAY - n) {
            return NONE;
        }
        for (int passed = 0; passed < n; passed++) {
            keepers.passDay(town, rule, false);
        }
        return town.metCount();
    }

    public int mirrors(int mirror, int what) {
        if (!town.hasMirror(mirror) || !isWithin(what, 0, MIRROR_ROWS - 1)) {
            return REFUSED;
        }
        return town.ofMirror(mirror, what);
    }

    public int yards(int yard, int what) {
        if (!town.hasYard(yard) || !isWithin(what, 0, YARD_ROWS - 1)) {
            return NONE;
        }
        return town.ofYard(yard, what);
    }

    public int cell(int x, int y, int what) {
        if (!town.hasCell(x, y)) {
            return REFUSED;
        }
        int cell = cellOf(x, y);
        switch (what) {
            case 0:
                return town.rock[cell];
            case 1:
                return town.eyes[cell];
            case 2:
                return town.mirrorAt[cell];
            case 3:
                return town.yardAt[cell];
            default:
                return REFUSED;
        }
    }

    public int gets(int hour, int yard) {
        if (!town.isLit(hour) || !town.hasYard(yard)) {
            return NONE;
        }
        beams.shine(town, hour);
        return beams.got[yard];
    }

    public int light(int hour, int what) {
        if (!town.isLit(hour)) {
            return NONE;
        }
        beams.shineWatched(town, hour);
        switch (what) {
            case 0:
                return beams.total();
            case 1:
                return beams.lost;
            case 2:
                return beams.spilt;
            case 3:
                return beams.cellCount;
            case 4:
                return beams.beamCount;
            case 5:
                return beams.blindCount(town);
            case 6:
                return beams.firstBlind(town);
            default:
                return NONE;
        }
    }

    public int passes(int hour, int x, int y) {
        if (!town.isLit(hour) || !town.hasCell(x, y)) {
            return NONE;
        }
        beams.shineWatched(town, hour);
        return beams.passed[cellOf(x, y)];
    }

    public int sees(int hour, int mirror) {
        if (!town.isLit(hour) || !town.hasMirror(mirror)) {
            return NONE;
        }
        beams.shine(town, hour);
        System.arraycopy(beams.got, 0, gotNow, 0, MOST_YARDS);
        int slant = town.ofMirror(mirror, SLANT);
        town.setMirror(mirror, SLANT, (slant + 1) % WAYS);
        beams.shine(town, hour);
        town.setMirror(mirror, SLANT, slant);
        int seen = 0;
        for (int yard = 0; yard < MOST_YARDS; yard++) {
            if (beams.got[yard] != gotNow[yard]) {
                seen |= 1 << yard;
            }
        }
        return seen;
    }

    public int worth(int hour, int mirror) {
        if (!town.isLit(hour) || !town.hasMirror(mirror)) {
            return REFUSED_WORTH;
        }
        return worthOfSet(hour, 1 << mirror);
    }

    public int owned(int hour, int owner) {
        if (!town.isLit(hour) || !isWithin(owner, 0, MOST_OWNER)) {
            return REFUSED_WORTH;
        }
        return worthOfSet(hour, town.mirrorsWith(OWNER, owner));
    }

    public int aim(int hour, int yard, int mirrors, int k) {
        if (!town.isLit(hour) || !town.hasYard(yard) || !isPlaceOfSet(mirrors, k)) {
            return NONE;
        }
        aiming.search(town, hour, mirrors, yard);
        return aiming.answer(k);
    }

    public int fair(int hour, int mirrors, int k) {
        if (!town.isLit(hour) || town.yardCount == 0 || !isPlaceOfSet(mirrors, k)) {
            return NONE;
        }
        aiming.search(town, hour, mirrors, NONE);
        return aiming.answer(k);
    }

    public int mends(int hour, int mirror, int what) {
        if (!town.isLit(hour) || !town.hasMirror(mirror) || !isWithin(what, 0, Mending.ANSWERS - 1)) {
            return NONE;
        }
        mending.begin(hour, mirror);
        if (!mending.needsNone() && !mending.findOne()) {
            mending.findTwo();
        }
        mending.restore();
        return mending.answers[what];
    }

    public int second(int hour, int what) {
        if (!town.isLit(hour) || !isWithin(what, 0, 2)) {
            return NONE;
        }
        opening.search(town, hour);
        if (what == 0) {
            return opening.cell;
        }
        return what == 1 ? opening.way : opening.most;
    }

    public int thief(int hour, int what) {
        if (!town.isLit(hour) || !isWithin(what, 0, 2)) {
            return NONE;
        }
        theft.search(town, hour);
        if (what == 0) {
            return theft.mirror;
        }
        return what == 1 ? theft.missing : theft.explains;
    }

    public int dusty(int hour, int mirror, int yard, int light) {
        if (!town.isLit(hour) || !town.hasMirror(mirror) || !town.hasYard(yard)
                || !isWithin(light, 0, MOST_WANT)) {
            return NONE;
        }
        int before = town.ofMirror(mirror, DUST);
        int least = leastDust(hour, mirror, yard, light);
        town.setMirror(mirror, DUST, before);
        return least;
    }

    public int dark(int law, int yard, int bound) {
        Law rule = findLaw(law);
        if (rule == null || !town.hasYard(yard) || bound < 0) {
            return NONE;
        }
        int months = 0;
        for (int month = 0; month < MONTHS; month++) {
            trial.copyFrom(town);
            trial.month = month;
            keepers.passDay(trial, rule, false);
            if (trial.ofYard(yard, LIGHT) < bound) {
                months |= 1 << month;
            }
        }
        return months;
    }

    public int ahead(int law, int n, int what) {
        Law rule = findLaw(law);
        if (rule == null || !town.isBegun() || !isWithin(n, 1, MOST_AHEAD)) {
            return REFUSED_AHEAD;
        }
        if (!isWithin(what, -2, town.yardCount - 1)) {
            return REFUSED_AHEAD;
        }
        trial.copyFrom(town);
        int blindHours = 0;
        for (int passed = 0; passed < n; passed++) {
            blindHours += keepers.passDay(trial, rule, what == -1);
        }
        if (what == -2) {
            return trial.metCount();
        }
        return what == -1 ? blindHours : trial.ofYard(what, LIGHT);
    }

    public int count(int what) {
        if (what == 8) {
            return lawCount;
        }
        if (what == 9) {
            return tapeLength;
        }
        return town.isBegun() ? countOfTown(what) : NONE;
    }

    public int image(int k) {
        if (!isWithin(k, 0, MOST_IMAGES - 1) || !town.isBegun()) {
            return NONE;
        }
        Town kept = images[k];
        if (kept == null) {
            kept = new Town();
            images[k] = kept;
        }
        kept.copyFrom(town);
        return town.day;
    }

    public int back(int k) {
        if (!isWithin(k, 0, MOST_IMAGES - 1)) {
            return NONE;
        }
        Town kept = images[k];
        if (kept == null) {
            return NONE;
        }
        town.copyFrom(kept);
        return town.day;
    }

    private static boolean isWithin(int n, int least, int most) {
        return n >= least && n <= most;
    }

    private static int cellOf(int x, int y) {
        return MOST_SIDE * y + x;
    }

    /** So many thousandths of a light, downwards: at most 99999 * 1000, so an int holds it. */
    private static int shareOf(int light, int thousandths) {
        return light * thousandths / WHOLE;
    }

    private int changeMirror(int mirror, int what, int n, boolean isAsTold) {
        if (!isAsTold) {
            return REFUSED;
        }
        int before = town.ofMirror(mirror, what);
        town.setMirror(mirror, what, n);
        return before;
    }

    private void putOnTape(int four) {
        for (int shift = 24; shift >= 0 && tapeLength < MOST_BYTES; shift -= 8) {
            tape[tapeLength] = (byte) (four >>> shift);
            tapeLength++;
        }
    }

    private Law findLaw(int law) {
        return isWithin(law, 0, lawCount - 1) ? laws[law] : null;
    }

    /** Whether these bits are a set of 1 to 4 mirrors that are there, with a place k or k NONE. */
    private boolean isPlaceOfSet(int set, int k) {
        int size = Integer.bitCount(set);
        return set >>> town.mirrorCount == 0 && isWithin(size, 1, MOST_SET) && isWithin(k, NONE, size - 1);
    }

    private int worthOfSet(int hour, int set) {
        beams.shine(town, hour);
        int now = beams.total();
        int breaking = set & town.mirrorsWith(BROKEN, 0);
        town.setBroken(breaking, 1);
        beams.shine(town, hour);
        town.setBroken(breaking, 0);
        return now - beams.total();
    }

    private int leastDust(int hour, int mirror, int yard, int light) {
        if (getWithDust(hour, mirror, yard, 0) <= light) {
            return 0;
        }
        if (!beams.touches(mirror)) {
            return REFUSED;
        }
        // Dust spares cells and room to wait for others where a limit cut the beams: a yard may get more then.
        return beams.isCut ? leastDustOneByOne(hour, mirror, yard, light) : leastDustByHalves(hour, mirror, yard, light);
    }

    private int leastDustOneByOne(int hour, int mirror, int yard, int light) {
        for (int dust = 1; dust <= WHOLE; dust++) {
            if (getWithDust(hour, mirror, yard, dust) <= light) {
                return dust;
            }
        }
        return REFUSED;
    }

    private int leastDustByHalves(int hour, int mirror, int yard, int light) {
        if (getWithDust(hour, mirror, yard, WHOLE) > light) {
            return REFUSED;
        }
        int tooLittle = 0;
        int enough = WHOLE;
        for (int halved = 0; enough - tooLittle > 1 && halved < WHOLE; halved++) {
            int middle = (tooLittle + enough) / 2;
            if (getWithDust(hour, mirror, yard, middle) <= light) {
                enough = middle;
            } else {
                tooLittle = middle;
            }
        }
        return enough;
    }

    private int getWithDust(int hour, int mirror, int yard, int dust) {
        town.setMirror(mirror, DUST, dust);
        beams.shine(town, hour);
        return beams.got[yard];
    }

    private int countOfTown(int what) {
        switch (what) {
            case 0:
                return town.columns;
            case 1:
                return town.rows;
            case 2:
                return town.mirrorCount;
            case 3:
                return town.yardCount;
            case 4:
                return town.month;
            case 5:
                return town.day;
            case 6:
                return town.metCount();
            case 7:
                return town.fall;
            default:
                return NONE;
        }
    }

    /** All that an image keeps; without columns there is no town. */
    private static final class Town {
        int columns;
        int rows;
        int gapX;
        int gapY;
        int air;
        int month;
        int day;
        int fall;
        int mirrorCount;
        int yardCount;
        final int[] rock = new int[ALL_CELLS];
        final int[] eyes = new int[ALL_CELLS];
        final int[] mirrorAt = new int[ALL_CELLS];
        final int[] yardAt = new int[ALL_CELLS];
        final int[] sunWay = new int[MONTHS * HOURS];
        final int[] sunStrength = new int[MONTHS * HOURS];
        final int[] mirrorTable = new int[MIRROR_ROWS * MOST_MIRRORS];
        final int[] yardTable = new int[YARD_ROWS * MOST_YARDS];

        void begin(int columns, int rows, int gapX, int gapY, int air) {
            this.columns = columns;
            this.rows = rows;
            this.gapX = gapX;
            this.gapY = gapY;
            this.air = air;
            month = 0;
            day = 0;
            fall = 0;
            mirrorCount = 0;
            yardCount = 0;
            Arrays.fill(rock, 0);
            Arrays.fill(eyes, NONE);
            Arrays.fill(mirrorAt, NONE);
            Arrays.fill(yardAt, NONE);
            Arrays.fill(sunWay, NONE);
            Arrays.fill(sunStrength, 0);
        }

        void copyFrom(Town other) {
            columns = other.columns;
            rows = other.rows;
            gapX = other.gapX;
            gapY = other.gapY;
            air = other.air;
            month = other.month;
            day = other.day;
            fall = other.fall;
            mirrorCount = other.mirrorCount;
            yardCount = other.yardCount;
            System.arraycopy(other.rock, 0, rock, 0, ALL_CELLS);
            System.arraycopy(other.eyes, 0, eyes, 0, ALL_CELLS);
            System.arraycopy(other.mirrorAt, 0, mirrorAt, 0, ALL_CELLS);
            System.arraycopy(other.yardAt, 0, yardAt, 0, ALL_CELLS);
            System.arraycopy(other.sunWay, 0, sunWay, 0, MONTHS * HOURS);
            System.arraycopy(other.sunStrength, 0, sunStrength, 0, MONTHS * HOURS);
            System.arraycopy(other.mirrorTable, 0, mirrorTable, 0, MIRROR_ROWS * MOST_MIRRORS);
            System.arraycopy(other.yardTable, 0, yardTable, 0, YARD_ROWS * MOST_YARDS);
        }

        boolean isBegun() {
            return columns > 0;
        }

        boolean hasCell(int x, int y) {
            return x >= 0 && x < columns && y >= 0 && y < rows;
        }

        boolean isOpen(int x, int y) {
            return x >= 0 && x < columns && y >= 0 && y < rows && rock[MOST_SIDE * y + x] == 0;
        }

        boolean hasRectangle(int x, int y, int toX, int toY) {
            return hasCell(x, y) && hasCell(toX, toY) && x <= toX && y <= toY;
        }

        boolean hasMirror(int mirror) {
            return mirror >= 0 && mirror < mirrorCount;
        }

        boolean hasYard(int yard) {
            return yard >= 0 && yard < yardCount;
        }

        boolean isLit(int hour) {
            return columns > 0 && hour >= 0 && hour < HOURS && sunWay[month * HOURS + hour] != NONE;
        }

        int wayOf(int hour) {
            return sunWay[month * HOURS + hour];
        }

        int strengthOf(int hour) {
            return sunStrength[month * HOURS + hour];
        }

        void setWay(int hour, int way) {
            sunWay[month * HOURS + hour] = way;
        }

        int ofMirror(int mirror, int what) {
            return mirrorTable[what * MOST_MIRRORS + mirror];
        }

        void setMirror(int mirror, int what, int n) {
            mirrorTable[what * MOST_MIRRORS + mirror] = n;
        }

        int ofYard(int yard, int what) {
            return yardTable[what * MOST_YARDS + yard];
        }

        void setYard(int yard, int what, int n) {
            yardTable[what * MOST_YARDS + yard] = n;
        }

        int setRock(int x, int y, int toX, int toY, int is) {
            int changed = 0;
            for (int row = y; row <= toY; row++) {
                for (int column = x; column <= toX; column++) {
                    if (rock[cellOf(column, row)] != is) {
                        rock[cellOf(column, row)] = is;
                        changed++;
                    }
                }
            }
            return changed;
        }

        int addMirror(int x, int y) {
            int made = mirrorCount;
            mirrorCount++;
            mirrorAt[cellOf(x, y)] = made;
            setMirror(made, MIRROR_X, x);
            setMirror(made, MIRROR_Y, y);
            setMirror(made, DUST, 0);
            setMirror(made, BROKEN, 0);
            setMirror(made, READING, NONE);
            return made;
        }

        int addYard(int x, int y, int toX, int toY) {
            int made = yardCount;
            yardCount++;
            for (int row = y; row <= toY; row++) {
                for (int column = x; column <= toX; column++) {
                    if (yardAt[cellOf(column, row)] == NONE) {
                        yardAt[cellOf(column, row)] = made;
                    }
                }
            }
            setYard(made, LIGHT, 0);
            setYard(made, LEFT, x);
            setYard(made, TOP, y);
            setYard(made, RIGHT, toX);
            setYard(made, BOTTOM, toY);
            return made;
        }

        boolean isWhole(int mirror) {
            return mirrorTable[BROKEN * MOST_MIRRORS + mirror] == 0;
        }

        int takeAt(int cell) {
            int yard = yardAt[cell];
            return yard == NONE ? 0 : ofYard(yard, TAKE);
        }

        int lossOf(int mirror) {
            int loss = mirrorTable[LOSS * MOST_MIRRORS + mirror] + mirrorTable[DUST * MOST_MIRRORS + mirror];
            return loss < WHOLE ? loss : WHOLE;
        }

        int wayFrom(int mirror, int way) {
            return (mirrorTable[SLANT * MOST_MIRRORS + mirror] - way) & (WAYS - 1);
        }

        /** The mirrors, as bits, that have n in a row of their table. */
        int mirrorsWith(int what, int n) {
            int set = 0;
            for (int mirror = 0; mirror < mirrorCount; mirror++) {
                if (ofMirror(mirror, what) == n) {
                    set |= 1 << mirror;
                }
            }
            return set;
        }

        void setBroken(int set, int broken) {
            for (int mirror = 0; mirror < mirrorCount; mirror++) {
                if ((set >> mirror & 1) == 1) {
                    setMirror(mirror, BROKEN, broken);
                }
            }
        }

        /** A mirror goes towards a slant by the shorter way, as far as it reaches. */
        void turnTowards(int mirror, int wanted) {
            int slant = ofMirror(mirror, SLANT);
            int reach = ofMirror(mirror, REACH);
            int upwards = (wanted - slant) & (WAYS - 1);
            int step = upwards <= WAYS / 2 ? Math.min(upwards, reach) : -Math.min(WAYS - upwards, reach);
            setMirror(mirror, SLANT, (slant + step) & (WAYS - 1));
        }

        void endDay(int[] got) {
            for (int mirror = 0; mirror < mirrorCount; mirror++) {
                setMirror(mirror, DUST, Math.min(ofMirror(mirror, DUST) + fall, WHOLE));
            }
            for (int yard = 0; yard < yardCount; yard++) {
                setYard(yard, LIGHT, got[yard]);
            }
            day++;
        }

        int metCount() {
            int met = 0;
            for (int yard = 0; yard < yardCount; yard++) {
                if (ofYard(yard, LIGHT) >= ofYard(yard, WANT)) {
                    met++;
                }
            }
            return met;
        }
    }

    /** Traces light, and tells what became of it. */
    private static final class Beams {
        private static final int MOST_ENTERED = 2000;
        private static final int MOST_WAITING = 60;

        final int[] got = new int[MOST_YARDS];
        final int[] passed = new int[ALL_CELLS];
        int lost;
        int spilt;
        int cellCount;
        int beamCount;
        /** Whether a limit of waiting beams or of cells may have cut one off. */
        boolean isCut;
        private int touched;
        private boolean isWatching;
        private final int[] waitingFrom = new int[MOST_WAITING];
        private final int[] waitingLight = new int[MOST_WAITING];
        private int waitingHead;
        private int waitingCount;

        /** The sun of an hour by the gap; what passes cells is not told, for it costs time. */
        void shine(Town town, int hour) {
            clear();
            follow(town, town.gapX, town.gapY, town.wayOf(hour), town.strengthOf(hour));
            // A beam waits only where one came into a cell, so there are no more of them than cells.
            for (int followed = 0; waitingCount > 0 && followed < MOST_ENTERED; followed++) {
                int from = waitingFrom[waitingHead];
                int light = waitingLight[waitingHead];
                waitingHead = (waitingHead + 1) % MOST_WAITING;
                waitingCount--;
                int way = from % WAYS;
                int cell = from / WAYS;
                follow(town, cell % MOST_SIDE + STEP_X[way], cell / MOST_SIDE + STEP_Y[way], way, light);
            }
        }

        void shineWatched(Town town, int hour) {
            isWatching = true;
            Arrays.fill(passed, 0);
            shine(town, hour);
            isWatching = false;
        }

        int total() {
            int sum = 0;
            for (int yard = 0; yard < MOST_YARDS; yard++) {
                sum += got[yard];
            }
            return sum;
        }

        boolean touches(int mirror) {
            return (touched >> mirror & 1) == 1;
        }

        int touchedSet() {
            return touched;
        }

        int blindCount(Town town) {
            int blind = 0;
            for (int cell = 0; cell < ALL_CELLS; cell++) {
                if (isBlind(town, cell)) {
                    blind++;
                }
            }
            return blind;
        }

        int firstBlind(Town town) {
            for (int cell = 0; cell < ALL_CELLS; cell++) {
                if (isBlind(town, cell)) {
                    return cell;
                }
            }
            return REFUSED;
        }

        private boolean isBlind(Town town, int cell) {
            return town.eyes[cell] != NONE && passed[cell] > town.eyes[cell];
        }

        private void clear() {
            Arrays.fill(got, 0);
            lost = 0;
            spilt = 0;
            cellCount = 0;
            beamCount = 1;
            isCut = false;
            touched = 0;
            waitingHead = 0;
            waitingCount = 0;
        }

        /** One beam to its end; what is left of it then is spilt. */
        private void follow(Town town, int fromX, int fromY, int fromWay, int strength) {
            int x = fromX;
            int y = fromY;
            int way = fromWay;
            int left = strength;
            while (left > 0 && cellCount < MOST_ENTERED) {
                cellCount++;
                if (!town.isOpen(x, y)) {
                    spilt += left;
                    return;
                }
                int cell = cellOf(x, y);
                left = passAir(town, cell, left);
                if (town.yardAt[cell] != NONE) {
                    left = passYard(town, town.yardAt[cell], left);
                }
                int mirror = town.mirrorAt[cell];
                if (mirror != NONE && town.isWhole(mirror)) {
                    left = passMirror(town, mirror, cell * WAYS + way, left);
                    way = town.wayFrom(mirror, way);
                }
                x += STEP_X[way];
                y += STEP_Y[way];
            }
            if (left > 0) {
                spilt += left;
                isCut = true;
            }
        }

        private int passAir(Town town, int cell, int light) {
            int gone = shareOf(light, town.air);
            int left = light - gone;
            lost += gone;
            if (isWatching && passed[cell] < left) {
                passed[cell] = left;
            }
            return left;
        }

        private int passYard(Town town, int yard, int light) {
            int taken = shareOf(light, town.ofYard(yard, TAKE));
            got[yard] += taken;
            return light - taken;
        }

        private int passMirror(Town town, int mirror, int from, int light) {
            touched |= 1 << mirror;
            int gone = shareOf(light, town.lossOf(mirror));
            lost += gone;
            int through = shareOf(light - gone, town.ofMirror(mirror, THROUGH));
            if (through > 0) {
                letWait(from, through);
            }
            return light - gone - through;
        }

        private void letWait(int from, int light) {
            if (waitingCount >= MOST_WAITING) {
                spilt += light;
                isCut = true;
                return;
            }
            int tail = (waitingHead + waitingCount) % MOST_WAITING;
            waitingFrom[tail] = from;
            waitingLight[tail] = light;
            waitingCount++;
            beamCount++;
        }
    }

    /** A law as code for a stack: numbers as they are, words and signs as numbers below 0. */
    private static final class Law {
        static final int HOUR = -1;
        static final int MONTH = -2;
        static final int DAY = -3;
        static final int OWN_SLANT = -4;
        static final int SUN = -5;
        /** Yard a; those behind it go on downwards. */
        static final int YARD_A = -6;
        static final int NOT = -14;
        static final int ADD = -15;
        static final int SUBTRACT = -16;
        static final int MULTIPLY = -17;
        static final int DIVIDE = -18;
        static final int BELOW = -19;
        static final int NOT_ABOVE = -20;
        static final int EQUAL = -21;
        static final int NOT_BELOW = -22;
        static final int ABOVE = -23;
        static final int AND = -24;
        static final int OR = -25;
        static final int MOST_CLAUSES = 12;

        final int[] code = new int[MOST_BYTES];
        final int[] mirror = new int[MOST_CLAUSES];
        final int[] sumFrom = new int[MOST_CLAUSES];
        final int[] testFrom = new int[MOST_CLAUSES];
        final int[] testTo = new int[MOST_CLAUSES];
        int clauseCount;
        private int length;

        void clear() {
            clauseCount = 0;
            length = 0;
        }

        /** Each sign is of at least one byte of the text, so the code is never full. */
        void add(int sign) {
            if (length < MOST_BYTES) {
                code[length] = sign;
                length++;
            }
        }

        void beginClause(int ofMirror) {
            if (clauseCount < MOST_CLAUSES) {
                mirror[clauseCount] = ofMirror;
                sumFrom[clauseCount] = length;
            }
        }

        void beginTest() {
            if (clauseCount < MOST_CLAUSES) {
                testFrom[clauseCount] = length;
            }
        }

        void endClause() {
            if (clauseCount < MOST_CLAUSES) {
                testTo[clauseCount] = length;
                clauseCount++;
            }
        }
    }

    /** Reads the text of a law, token by token, up to its first fault. */
    private static final class LawReader {
        // Faults.
        private static final int WRONG = 0;
        private static final int BAD_NUMBER = 1;
        private static final int TOO_DEEP = 2;
        private static final int TOO_MANY = 3;
        private static final int CLAUSE_TOO_MANY = 4;

        // Tokens that are not signs of the code; a number is told as itself.
        private static final int TURN = -40;
        private static final int IF = -41;
        private static final int OPEN = -42;
        private static final int CLOSE = -43;
        private static final int NEXT = -44;
        private static final int TEXT_END = -45;
        private static final int LONG_NUMBER = -46;
        private static final int UNKNOWN = -47;

        // What is awaited.
        private static final int AT_TURN = 0;
        private static final int AT_MIRROR = 1;
        private static final int AT_FACT = 2;
        private static final int AT_VALUE = 3;
        private static final int BEHIND = 4;
        private static final int DONE = 5;

        // Of what the last value was, or a bracket that closed.
        private static final int SLANT_SUM = 0;
        private static final int LEFT_SUM = 1;
        private static final int RIGHT_SUM = 2;
        private static final int CLOSED = 3;

        private static final int MOST_DIGITS = 5;
        private static final int MOST_DEPTH = 10;
        private static final int MOST_VALUES = 60;
        private static final int MOST_OPEN = 64;

        private final byte[] text = new byte[MOST_BYTES];
        private final int[] open = new int[MOST_OPEN];
        private int openCount;
        private int length;
        private int place;
        private int token;
        private int tokenLength;
        private int awaited;
        private int part;
        private int depth;
        private int brackets;
        private int valueCount;
        private int fault;
        private Law draft;

        /** The fault of a text, 0 if it has none; the law is then whole. */
        int read(byte[] bytes, int byteCount, Law into) {
            System.arraycopy(bytes, 0, text, 0, byteCount);
            length = byteCount;
            place = 0;
            openCount = 0;
            depth = 0;
            brackets = 0;
            valueCount = 0;
            fault = 0;
            awaited = AT_TURN;
            draft = into;
            draft.clear();
            // Each token but the end takes a byte or more.
            for (int tokens = 0; tokens <= MOST_BYTES && awaited != DONE && fault == 0; tokens++) {
                readToken();
                takeToken();
                place += tokenLength;
            }
            return fault;
        }

        private void fail(int kind) {
            fault = 1 + 8 * place + kind;
        }

        private void takeToken() {
            switch (awaited) {
                case AT_TURN:
                    takeTurn();
                    break;
                case AT_MIRROR:
                    takeMirror();
                    break;
                case AT_FACT:
                    takeFact();
                    break;
                case AT_VALUE:
                    takeValue();
                    break;
                default:
                    takeBehind();
                    break;
            }
        }

        private void takeTurn() {
            if (token != TURN) {
                fail(WRONG);
            } else if (draft.clauseCount >= Law.MOST_CLAUSES) {
                fail(CLAUSE_TOO_MANY);
            } else {
                awaited = AT_MIRROR;
            }
        }

        private void takeMirror() {
            if (token < 0 && token != LONG_NUMBER) {
                fail(WRONG);
            } else if (token < 0 || token >= MOST_MIRRORS) {
                fail(BAD_NUMBER);
            } else {
                draft.beginClause(token);
                part = SLANT_SUM;
                awaited = AT_VALUE;
            }
        }

        private void takeFact() {
            if (token != Law.NOT && token != OPEN) {
                part = LEFT_SUM;
                takeValue();
            } else if (depth >= MOST_DEPTH) {
                fail(TOO_DEEP);
            } else {
                depth++;
                brackets += token == OPEN ? 1 : 0;
                push(token);
            }
        }

        private void takeValue() {
            if (token == LONG_NUMBER) {
                fail(BAD_NUMBER);
            } else if (token <= Law.NOT) {
                fail(WRONG);
            } else if (countsOneMore()) {
                draft.add(token);
                awaited = BEHIND;
            }
        }

        private void takeBehind() {
            boolean isFactWhole = part == RIGHT_SUM || part == CLOSED;
            if (token <= Law.ADD && token >= Law.DIVIDE && part != CLOSED) {
                takeSign(part, AT_VALUE);
            } else if (token <= Law.BELOW && token >= Law.ABOVE && part == LEFT_SUM) {
                if (countsOneMore()) {
                    takeSign(RIGHT_SUM, AT_VALUE);
                }
            } else if ((token == Law.AND || token == Law.OR) && isFactWhole) {
                takeSign(LEFT_SUM, AT_FACT);
            } else if (token == CLOSE && isFactWhole && brackets > 0) {
                closeBracket();
            } else if (token == IF && part == SLANT_SUM) {
                popDownTo(0);
                draft.beginTest();
                awaited = AT_FACT;
            } else if ((token == NEXT || token == TEXT_END) && part != LEFT_SUM && brackets == 0) {
                takeClauseEnd();
            } else {
                fail(WRONG);
            }
        }

        private void takeSign(int nextPart, int nextAwaited) {
            popDownTo(rankOf(token));
            push(token);
            part = nextPart;
            awaited = nextAwaited;
        }

        private void closeBracket() {
            popDownTo(rankOf(Law.OR));
            if (openCount > 0) {
                openCount--;
            }
            depth--;
            brackets--;
            part = CLOSED;
        }

        private void takeClauseEnd() {
            popDownTo(rankOf(Law.OR));
            if (part == SLANT_SUM) {
                draft.beginTest();
            }
            draft.endClause();
            awaited = token == NEXT ? AT_TURN : DONE;
        }

        private boolean countsOneMore() {
            if (valueCount >= MOST_VALUES) {
                fail(TOO_MANY);
                return false;
            }
            valueCount++;
            return true;
        }

        /** At most two signs wait at each depth and three more at the last, so there is always room. */
        private void push(int sign) {
            if (openCount < MOST_OPEN) {
                open[openCount] = sign;
                openCount++;
            }
        }

        /** Signs that wait go to the code, as long as they bind as much as this rank or more. */
        private void popDownTo(int rank) {
            while (openCount > 0 && open[openCount - 1] != OPEN && rankOf(open[openCount - 1]) >= rank) {
                openCount--;
                depth -= open[openCount] == Law.NOT ? 1 : 0;
                draft.add(open[openCount]);
            }
        }

        private static int rankOf(int sign) {
            switch (sign) {
                case Law.OR:
                    return 1;
                case Law.AND:
                    return 2;
                case Law.NOT:
                    return 3;
                case Law.ADD:
                case Law.SUBTRACT:
                    return 5;
                case Law.MULTIPLY:
                case Law.DIVIDE:
                    return 6;
                default:
                    return 4;
            }
        }

        /** The token behind blanks, and its length. */
        private void readToken() {
            while (place < length && text[place] == ' ') {
                place++;
            }
            tokenLength = 0;
            if (place >= length) {
                token = TEXT_END;
            } else if (isDigit(byteAt(place))) {
                readNumber();
            } else if (isLetter(byteAt(place))) {
                while (isLetter(byteAt(place + tokenLength)) && tokenLength < MOST_BYTES) {
                    tokenLength++;
                }
                token = tokenLength == 1 ? yardHere() : wordHere();
            } else {
                token = signHere();
                tokenLength = token == Law.NOT_ABOVE || token == Law.NOT_BELOW ? 2 : 1;
            }
        }

        private void readNumber() {
            int number = 0;
            while (isDigit(byteAt(place + tokenLength)) && tokenLength < MOST_BYTES) {
                if (tokenLength < MOST_DIGITS) {
                    number = 10 * number + byteAt(place + tokenLength) - '0';
                }
                tokenLength++;
            }
            token = tokenLength > MOST_DIGITS ? LONG_NUMBER : number;
        }

        private int yardHere() {
            int yard = byteAt(place) - 'a';
            return yard < MOST_YARDS ? Law.YARD_A - yard : UNKNOWN;
        }

        private int wordHere() {
            switch (byteAt(place)) {
                case 'a':
                    return isWord("and") ? Law.AND : UNKNOWN;
                case 'd':
                    return isWord("day") ? Law.DAY : UNKNOWN;
                case 'h':
                    return isWord("hour") ? Law.HOUR : UNKNOWN;
                case 'i':
                    return isWord("if") ? IF : UNKNOWN;
                case 'm':
                    return isWord("month") ? Law.MONTH : UNKNOWN;
                case 'n':
                    return isWord("not") ? Law.NOT : UNKNOWN;
                case 'o':
                    return isWord("or") ? Law.OR : UNKNOWN;
                case 's':
                    return isWord("sun") ? Law.SUN : isWord("slant") ? Law.OWN_SLANT : UNKNOWN;
                default:
                    return isWord("turn") ? TURN : UNKNOWN;
            }
        }

        private boolean isWord(String word) {
            if (tokenLength != word.length()) {
                return false;
            }
            for (int letter = 0; letter < word.length(); letter++) {
                if (byteAt(place + letter) != word.charAt(letter)) {
                    return false;
                }
            }
            return true;
        }

        private int signHere() {
            boolean isEqualBehind = byteAt(place + 1) == '=';
            switch (byteAt(place)) {
                case '+':
                    return Law.ADD;
                case '-':
                    return Law.SUBTRACT;
                case '*':
                    return Law.MULTIPLY;
                case '/':
                    return Law.DIVIDE;
                case '<':
                    return isEqualBehind ? Law.NOT_ABOVE : Law.BELOW;
                case '=':
                    return Law.EQUAL;
                case '>':
                    return isEqualBehind ? Law.NOT_BELOW : Law.ABOVE;
                case '[':
                    return OPEN;
                case ']':
                    return CLOSE;
                case ';':
                    return NEXT;
                default:
                    return UNKNOWN;
            }
        }

        /** A byte of the text, or TEXT_END behind it. */
        private int byteAt(int at) {
            return at >= 0 && at < length && at < MOST_BYTES ? text[at] & 255 : TEXT_END;
        }

        private static boolean isDigit(int sign) {
            return sign >= '0' && sign <= '9';
        }

        private static boolean isLetter(int sign) {
            return sign >= 'a' && sign <= 'z';
        }
    }

    /** Keepers who turn mirrors by a law while days go by. */
    private static final class Keepers {
        private static final int MOST_STACK = 64;

        private final Beams beams;
        private final int[] gotToday = new int[MOST_YARDS];
        private final long[] stack = new long[MOST_STACK];
        private int hour;

        Keepers(Beams beams) {
            this.beams = beams;
        }

        /** One day by a law: in how many hours there was a blind cell, or 0 if that is not watched. */
        int passDay(Town town, Law law, boolean isWatching) {
            Arrays.fill(gotToday, 0);
            int blindHours = 0;
            for (int at = 0; at < HOURS; at++) {
                hour = at;
                turnMirrors(town, law);
                if (town.isLit(at)) {
                    if (isWatching) {
                        beams.shineWatched(town, at);
                        blindHours += beams.firstBlind(town) == REFUSED ? 0 : 1;
                    } else {
                        beams.shine(town, at);
                    }
                    addToday();
                }
            }
            town.endDay(gotToday);
            return blindHours;
        }

        /** Clause by clause does as well as mirror by mirror: a clause looks at its own mirror alone. */
        private void turnMirrors(Town town, Law law) {
            int turned = 0;
            for (int clause = 0; clause < law.clauseCount; clause++) {
                int mirror = law.mirror[clause];
                if (town.hasMirror(mirror) && (turned >> mirror & 1) == 0 && holds(town, law, clause)) {
                    long sum = valueOf(town, law, law.sumFrom[clause], law.testFrom[clause], mirror);
                    town.turnTowards(mirror, (int) (sum & (WAYS - 1)));
                    turned |= 1 << mirror;
                }
            }
        }

        private void addToday() {
            for (int yard = 0; yard < MOST_YARDS; yard++) {
                gotToday[yard] += beams.got[yard];
            }
        }

        private boolean holds(Town town, Law law, int clause) {
            int from = law.testFrom[clause];
            int to = law.testTo[clause];
            return from == to || valueOf(town, law, from, to, law.mirror[clause]) != 0;
        }

        private long valueOf(Town town, Law law, int from, int to, int mirror) {
            int depth = 0;
            for (int at = from; at < to; at++) {
                int sign = law.code[at];
                if (sign > Law.NOT && depth < MOST_STACK) {
                    stack[depth] = sign >= 0 ? sign : wordValue(town, sign, mirror);
                    depth++;
                } else if (sign == Law.NOT && depth >= 1) {
                    stack[depth - 1] = 1 - stack[depth - 1];
                } else if (depth >= 2) {
                    depth--;
                    stack[depth - 1] = join(sign, stack[depth - 1], stack[depth]);
                }
            }
            return depth >= 1 ? stack[0] : 0;
        }

        private long wordValue(Town town, int word, int mirror) {
            switch (word) {
                case Law.HOUR:
                    return hour;
                case Law.MONTH:
                    return town.month;
                case Law.DAY:
                    return town.day;
                case Law.OWN_SLANT:
                    return town.ofMirror(mirror, SLANT);
                case Law.SUN:
                    return town.isLit(hour) ? town.wayOf(hour) : WAYS;
                default:
                    return gotByYard(Law.YARD_A - word);
            }
        }

        private long gotByYard(int yard) {
            return isWithin(yard, 0, MOST_YARDS - 1) ? gotToday[yard] : 0;
        }

        private static long join(int sign, long a, long b) {
            switch (sign) {
                case Law.ADD:
                    return a + b;
                case Law.SUBTRACT:
                    return a - b;
                case Law.MULTIPLY:
                    return a * b;
                case Law.DIVIDE:
                    return b == 0 ? 0 : a / b;
                default:
                    return joinTruth(sign, a, b) ? 1 : 0;
            }
        }

        private static boolean joinTruth(int sign, long a, long b) {
            switch (sign) {
                case Law.BELOW:
                    return a < b;
                case Law.NOT_ABOVE:
                    return a <= b;
                case Law.EQUAL:
                    return a == b;
                case Law.NOT_BELOW:
                    return a >= b;
                case Law.ABOVE:
                    return a > b;
                case Law.AND:
                    return a != 0 && b != 0;
                default:
                    return a != 0 || b != 0;
            }
        }
    }

    /** Finds the slants of a set of mirrors that are best for a yard, or fairest. */
    private static final class Aiming {
        private static final int MOST_TRIES = 4096;

        private final Beams beams;
        private final int[] members = new int[MOST_SET];
        private final int[] before = new int[MOST_SET];
        private final int[] tried = new int[MOST_SET];
        private final int[] best = new int[MOST_SET];
        private int size;
        private int most;

        Aiming(Beams beams) {
            this.beams = beams;
        }

        int answer(int k) {
            return isWithin(k, 0, size - 1) ? best[k] : most;
        }

        /** For a yard, or, where it is NONE, the fairest. */
        void search(Town town, int hour, int set, int yard) {
            gather(town, set);
            most = NONE;
            boolean isMore = true;
            for (int tries = 0; isMore && tries < MOST_TRIES; tries++) {
                putSlants(town, tried);
                beams.shine(town, hour);
                int reached = yard == NONE ? leastGot(town) : beams.got[yard];
                if (reached > most) {
                    most = reached;
                    System.arraycopy(tried, 0, best, 0, MOST_SET);
                }
                isMore = goOn(lastTouched());
            }
            putSlants(town, before);
        }

        private void gather(Town town, int set) {
            size = 0;
            for (int mirror = 0; mirror < town.mirrorCount && size < MOST_SET; mirror++) {
                if ((set >> mirror & 1) == 1) {
                    members[size] = mirror;
                    before[size] = town.ofMirror(mirror, SLANT);
                    tried[size] = 0;
                    size++;
                }
            }
        }

        private void putSlants(Town town, int[] slants) {
            for (int k = 0; k < size; k++) {
                town.setMirror(members[k], SLANT, slants[k]);
            }
        }

        /** The last place of the set to which light came: to turn only those behind it changes nothing. */
        private int lastTouched() {
            for (int k = size - 1; k >= 0; k--) {
                if (beams.touches(members[k])) {
                    return k;
                }
            }
            return NONE;
        }

        private boolean goOn(int last) {
            for (int k = last; k >= 0; k--) {
                if (tried[k] < WAYS - 1) {
                    tried[k]++;
                    return true;
                }
                tried[k] = 0;
            }
            return false;
        }

        private int leastGot(Town town) {
            int least = NONE;
            boolean isWanted = false;
            for (int yard = 0; yard < town.yardCount; yard++) {
                boolean wants = town.ofYard(yard, WANT) > 0;
                boolean isFirstOfKind = least == NONE || wants && !isWanted;
                if (isFirstOfKind || wants == isWanted && beams.got[yard] < least) {
                    least = beams.got[yard];
                    isWanted = wants;
                }
            }
            return least;
        }
    }

    /** Finds the fewest mirrors that must be turned when one breaks. */
    private static final class Mending {
        static final int ANSWERS = 5;

        final int[] answers = new int[ANSWERS];
        private final Town town;
        private final Beams beams;
        private final int[] needed = new int[MOST_YARDS];
        /** The mirrors to which light comes when one is turned to a slant. */
        private final int[] touchedWith = new int[MOST_MIRRORS * WAYS];
        private int hour;
        private int breaking;
        private int brokenBefore;
        private int touchedNow;

        Mending(Town town, Beams beams) {
            this.town = town;
            this.beams = beams;
        }

        /** The mirror breaks, until it is put back. */
        void begin(int atHour, int mirror) {
            hour = atHour;
            breaking = mirror;
            brokenBefore = town.ofMirror(mirror, BROKEN);
            Arrays.fill(answers, REFUSED);
            beams.shine(town, hour);
            for (int yard = 0; yard < MOST_YARDS; yard++) {
                needed[yard] = beams.got[yard] / 2;
            }
            town.setMirror(mirror, BROKEN, 1);
        }

        void restore() {
            town.setMirror(breaking, BROKEN, brokenBefore);
        }

        boolean needsNone() {
            boolean isMended = isEnough();
            touchedNow = beams.touchedSet();
            if (isMended) {
                answers[0] = 0;
            }
            return isMended;
        }

        boolean findOne() {
            for (int mirror = 0; mirror < town.mirrorCount; mirror++) {
                int before = town.ofMirror(mirror, SLANT);
                for (int slant = 0; slant < WAYS; slant++) {
                    touchedWith[mirror * WAYS + slant] = touchedNow;
                    if (isIn(touchedNow, mirror) && slant != before && isMendedBy(mirror, slant)) {
                        answers[0] = 1;
                        answers[1] = mirror;
                        answers[2] = slant;
                        return true;
                    }
                }
            }
            return false;
        }

        void findTwo() {
            for (int one = 0; one < town.mirrorCount; one++) {
                for (int other = one + 1; other < town.mirrorCount; other++) {
                    if (findSlants(one, other)) {
                        answers[0] = 2;
                        answers[1] = one;
                        answers[3] = other;
                        return;
                    }
                }
            }
        }

        private boolean isEnough() {
            beams.shine(town, hour);
            for (int yard = 0; yard < MOST_YARDS; yard++) {
                if (beams.got[yard] < needed[yard]) {
                    return false;
                }
            }
            return true;
        }

        private boolean isMendedBy(int mirror, int slant) {
            int before = town.ofMirror(mirror, SLANT);
            town.setMirror(mirror, SLANT, slant);
            boolean isMended = isEnough();
            touchedWith[mirror * WAYS + slant] = beams.touchedSet();
            town.setMirror(mirror, SLANT, before);
            return isMended;
        }

        private boolean findSlants(int one, int other) {
            int oneBefore = town.ofMirror(one, SLANT);
            int otherBefore = town.ofMirror(other, SLANT);
            boolean isMended = false;
            for (int pair = 0; pair < WAYS * WAYS && !isMended; pair++) {
                int oneSlant = pair / WAYS;
                int otherSlant = pair % WAYS;
                if (oneSlant != oneBefore && otherSlant != otherBefore
                        && doesPairMatter(one, oneSlant, other, otherSlant)) {
                    town.setMirror(one, SLANT, oneSlant);
                    town.setMirror(other, SLANT, otherSlant);
                    isMended = isEnough();
                    answers[2] = isMended ? oneSlant : REFUSED;
                    answers[4] = isMended ? otherSlant : REFUSED;
                }
            }
            town.setMirror(one, SLANT, oneBefore);
            town.setMirror(other, SLANT, otherBefore);
            return isMended;
        }

        /** Where light would not come to one of two, it is as if the other alone were turned: not enough. */
        private boolean doesPairMatter(int one, int oneSlant, int other, int otherSlant) {
            return isIn(touchedWith[one * WAYS + oneSlant], other)
                    && isIn(touchedWith[other * WAYS + otherSlant], one);
        }

        /** Light does not come to a broken mirror, so none of those is in such a set. */
        private static boolean isIn(int set, int mirror) {
            return (set >> mirror & 1) == 1;
        }
    }

    /** Finds where a second gap should be. */
    private static final class Opening {
        int cell;
        int way;
        int most;
        private final Beams beams;

        Opening(Beams beams) {
            this.beams = beams;
        }

        /** Moves the gap and turns the sun of that hour for each try, and puts them back. */
        void search(Town town, int hour) {
            cell = REFUSED;
            way = REFUSED;
            most = REFUSED;
            int gapX = town.gapX;
            int gapY = town.gapY;
            int wayBefore = town.wayOf(hour);
            for (int y = 0; y < town.rows; y++) {
                for (int x = 0; x < town.columns; x++) {
                    boolean isGap = x == gapX && y == gapY;
                    if (!isGap && isEdge(town, x, y) && town.isOpen(x, y)) {
                        town.gapX = x;
                        town.gapY = y;
                        tryWays(town, hour);
                    }
                }
            }
            town.gapX = gapX;
            town.gapY = gapY;
            town.setWay(hour, wayBefore);
        }

        private static boolean isEdge(Town town, int x, int y) {
            return x == 0 || y == 0 || x == town.columns - 1 || y == town.rows - 1;
        }

        private void tryWays(Town town, int hour) {
            for (int by = 0; by < WAYS; by++) {
                if (town.hasCell(town.gapX + STEP_X[by], town.gapY + STEP_Y[by])) {
                    town.setWay(hour, by);
                    beams.shine(town, hour);
                    if (beams.total() > most) {
                        cell = cellOf(town.gapX, town.gapY);
                        way = by;
                        most = beams.total();
                    }
                }
            }
        }
    }

    /** Finds who steals light from the first beam. */
    private static final class Theft {
        int mirror;
        int missing;
        int explains;
        private final int[] order = new int[MOST_MIRRORS];
        private final int[] comes = new int[MOST_MIRRORS];
        private int metCount;

        void search(Town town, int hour) {
            mirror = REFUSED;
            missing = 0;
            explains = 0;
            walk(town, hour);
            for (int k = 0; k < metCount; k++) {
                int read = town.ofMirror(order[k], READING);
                if (read != NONE && read < comes[k]) {
                    mirror = order[k];
                    missing = comes[k] - read;
                    explains = isExplainedBehind(town, hour, k) ? 1 : 0;
                    return;
                }
            }
        }

        /** With less light the beam goes the same way, but may end sooner: nothing comes to the rest then. */
        private boolean isExplainedBehind(Town town, int hour, int k) {
            int metBefore = metCount;
            Arrays.fill(comes, 0);
            walk(town, hour);
            for (int behind = k + 1; behind < metBefore; behind++) {
                int read = town.ofMirror(order[behind], READING);
                if (read != NONE && read != comes[behind]) {
                    return false;
                }
            }
            return true;
        }

        /** The first beam, what is missing gone at its mirror: which mirrors it meets, and what comes there. */
        private void walk(Town town, int hour) {
            metCount = 0;
            int met = 0;
            int x = town.gapX;
            int y = town.gapY;
            int way = town.wayOf(hour);
            int left = town.strengthOf(hour);
            for (int entered = 0; left > 0 && entered < Beams.MOST_ENTERED; entered++) {
                if (!town.isOpen(x, y)) {
                    return;
                }
                left -= shareOf(left, town.air);
                left -= shareOf(left, town.takeAt(cellOf(x, y)));
                int here = town.mirrorAt[cellOf(x, y)];
                if (here != NONE && town.isWhole(here)) {
                    if ((met >> here & 1) == 0) {
                        met |= 1 << here;
                        left = meet(here, left);
                    }
                    left -= shareOf(left, town.lossOf(here));
                    left -= shareOf(left, town.ofMirror(here, THROUGH));
                    way = town.wayFrom(here, way);
                }
                x += STEP_X[way];
                y += STEP_Y[way];
            }
        }

        /** What is left of light that comes to a mirror the first time. */
        private int meet(int here, int light) {
            if (metCount < MOST_MIRRORS) {
                order[metCount] = here;
                comes[metCount] = light;
                metCount++;
            }
            return here == mirror ? light - missing : light;
        }
    }
}
