/** The boundary cases of a town and of what stands in it: promises 1 to 10, 15 to 17 and 32 to 34. */
public final class TownBoundsTest {
    private static final int NONE = OneSunbeam.NONE;
    private static final int LEAST = Integer.MIN_VALUE;
    private static final int MOST = Integer.MAX_VALUE;

    public static void main(String[] arguments) {
        newObject();
        sides();
        gap();
        air();
        inPlaceOfOne();
        rockRectangle();
        rockCount();
        sunMonthAndHour();
        sunWayAndStrength();
        darkSun();
        darkAtFirst();
        mirrorsAreFull();
        oneToACell();
        mirrorAsTold();
        mirrorAtFirst();
        setsSlant();
        setsDust();
        setsBroken();
        setsReading();
        setsWithoutThese();
        yardsAreFull();
        yardRectangle();
        yardTakeAndWant();
        eyesBound();
        eyesCell();
        month();
        falls();
        mirrorsReader();
        yardsReader();
        cellReader();
        firstYard();
        count();
        countWithoutTown();
        image();
        imageMadeAnew();
        back();
        backNeverMade();
        lawsAndTapeStay();
        Bounds.end();
    }

    private static void newObject() {
        Bounds.by("No TOWN, no LAWS");
        for (int what = 0; what < 8; what++) Bounds.due("count " + what, new OneSunbeam().count(what), NONE);
        Bounds.due("laws", new OneSunbeam().count(8), 0);
        Bounds.due("tape", new OneSunbeam().count(9), 0);
        withoutTown("rock", NONE, x -> x.rock(0, 0, 0, 0, true));
        withoutTown("sun", 0, x -> x.sun(0, 0, 0, 1) ? 1 : 0);
        withoutTown("dark sun", 0, x -> x.sun(0, 0, NONE, 0) ? 1 : 0);
        withoutTown("mirror", NONE, x -> x.mirror(0, 0, 0, 0, 0, 0, 0));
        withoutTown("sets", -2, x -> x.sets(0, 0, 0));
        withoutTown("yard", NONE, x -> x.yard(0, 0, 0, 0, 1, 0));
        withoutTown("eyes", -2, x -> x.eyes(0, 0, 0));
        withoutTown("month", NONE, x -> x.month(0));
        withoutTown("falls", NONE, x -> x.falls(0));
        withoutTown("days", NONE, x -> x.days(0, 1));
        withoutTown("mirrors", -2, x -> x.mirrors(0, 0));
        withoutTown("yards", NONE, x -> x.yards(0, 0));
        withoutTown("cell", -2, x -> x.cell(0, 0, 0));
        withoutTown("gets", NONE, x -> x.gets(0, 0));
        withoutTown("light", NONE, x -> x.light(0, 0));
        withoutTown("passes", NONE, x -> x.passes(0, 0, 0));
        withoutTown("sees", NONE, x -> x.sees(0, 0));
        withoutTown("worth", -1000000, x -> x.worth(0, 0));
        withoutTown("owned", -1000000, x -> x.owned(0, 0));
        withoutTown("aim", NONE, x -> x.aim(0, 0, 1, -1));
        withoutTown("fair", NONE, x -> x.fair(0, 1, -1));
        withoutTown("mends", NONE, x -> x.mends(0, 0, 0));
        withoutTown("second", NONE, x -> x.second(0, 0));
        withoutTown("thief", NONE, x -> x.thief(0, 0));
        withoutTown("dusty", NONE, x -> x.dusty(0, 0, 0, 0));
        withoutTown("dark", NONE, x -> x.dark(0, 0, 0));
        withoutTown("ahead", -3, x -> x.ahead(0, 1, -2));
        withoutTown("image", NONE, x -> x.image(0));
        withoutTown("back", NONE, x -> x.back(0));
    }

    private static final Bounds.Start LAW_ALONE = () -> {
        OneSunbeam x = new OneSunbeam();
        Bounds.law(x, "turn 0 1");
        return x;
    };

    private static void withoutTown(String name, long want, Bounds.Call call) {
        Bounds.refused(Bounds.NEW, name + " on a new object", want, call);
        Bounds.refused(LAW_ALONE, name + " with a law, without a town", want, call);
    }

    private static void town(int columns, int rows, int x, int y, int air) {
        OneSunbeam made = new OneSunbeam();
        Bounds.due("town " + columns + " by " + rows, made.town(columns, rows, x, y, air), true);
        Bounds.due("columns", made.count(0), columns);
        Bounds.due("rows", made.count(1), rows);
        Bounds.due("the last cell", made.cell(columns - 1, rows - 1, 0), 0);
        Bounds.due("a column more", made.cell(columns, 0, 0), -2);
        Bounds.due("a row more", made.cell(0, rows, 0), -2);
        made.sun(0, 0, 0, 10);
        Bounds.due("cells from the gap on", made.light(0, 3), air == 1000 ? 1 : columns - x + 1);
        Bounds.due("the gap", made.passes(0, x, y), air == 1000 ? 0 : 10);
    }

    private static void noTown(int columns, int rows, int x, int y, int air) {
        String name = "town " + columns + ", " + rows + ", " + x + ", " + y + ", " + air;
        Bounds.refused(name, 0, made -> made.town(columns, rows, x, y, air) ? 1 : 0);
        Bounds.refused(Bounds.NEW, name, 0, made -> made.town(columns, rows, x, y, air) ? 1 : 0);
    }

    private static void sides() {
        Bounds.by("A TOWN is begun with columns, rows (4 to 24 each)");
        town(4, 5, 0, 0, 0);
        town(5, 4, 0, 0, 0);
        town(4, 24, 0, 0, 0);
        town(24, 4, 0, 0, 0);
        noTown(3, 5, 0, 0, 0);
        noTown(5, 3, 0, 0, 0);
        noTown(25, 5, 0, 0, 0);
        noTown(5, 25, 0, 0, 0);
        noTown(0, 0, 0, 0, 0);
        noTown(-4, 5, 0, 0, 0);
        noTown(LEAST, 5, 0, 0, 0);
        noTown(5, MOST, 0, 0, 0);
    }

    private static void gap() {
        Bounds.by("(gap in the TOWN)");
        town(4, 7, 3, 6, 0);
        town(7, 4, 6, 3, 0);
        town(6, 5, 0, 0, 0);
        noTown(4, 7, 4, 6, 0);
        noTown(4, 7, 3, 7, 0);
        noTown(7, 4, 7, 3, 0);
        noTown(7, 4, 6, 4, 0);
        noTown(7, 4, -1, 0, 0);
        noTown(7, 4, 0, -1, 0);
        noTown(7, 4, MOST, 0, 0);
        noTown(7, 4, 0, LEAST, 0);
    }

    private static void air() {
        Bounds.by("air (0 to 1000)");
        town(6, 5, 0, 0, 0);
        town(6, 5, 0, 0, 1000);
        noTown(6, 5, 0, 0, -1);
        noTown(6, 5, 0, 0, 1001);
        noTown(6, 5, 0, 0, LEAST);
        OneSunbeam x = new OneSunbeam();
        x.town(6, 5, 0, 0, 999);
        x.sun(0, 0, 0, 99999);
        Bounds.due("999 of a thousand are lost, then 99, then 0", x.light(0, 1), 99899 + 99);
        Bounds.due("1 is left", x.light(0, 2), 1);
        x.town(6, 5, 0, 0, 1000);
        x.sun(0, 0, 0, 99999);
        Bounds.due("all is lost", x.light(0, 1), 99999);
        x.town(6, 5, 0, 0, 0);
        x.sun(0, 0, 0, 99999);
        Bounds.due("nothing is lost", x.light(0, 1), 0);
    }

    private static void inPlaceOfOne() {
        Bounds.by("A TOWN is begun in place of one there was (no ROCK, SUN, MIRRORS, YARDS, EYES, READINGS; dust fall 0)");
        Bounds.due("what stands", Bounds.seen(Bounds::standsInTown, again()), Bounds.seen(Bounds::standsInTown, anew()));
        Bounds.due("suns", Bounds.seen(Bounds::ways, again()), Bounds.seen(Bounds::ways, anew()));
        OneSunbeam x = again();
        for (int mirror = 0; mirror < 3; mirror++) {
            Bounds.due("mirror", x.mirror(mirror, 2, 1, 2, 3, 4, 5), mirror);
            Bounds.due("no reading", x.mirrors(mirror, 9), NONE);
            Bounds.due("no dust", x.mirrors(mirror, 7), 0);
            Bounds.due("not broken", x.mirrors(mirror, 8), 0);
        }
        Bounds.due("a yard", x.yard(0, 0, 4, 4, 1, 0), 0);
        Bounds.due("its light", x.yards(0, 0), 0);
        Bounds.due("laws stay", x.count(8), 2);
        Bounds.due("the tape stays", x.count(9), 8);
        Bounds.due("images stay", x.back(1), 0);
        OneSunbeam y = new OneSunbeam();
        y.town(24, 24, 0, 0, 0);
        y.rock(0, 0, 23, 23, true);
        y.eyes(23, 23, 5);
        y.town(4, 4, 0, 0, 0);
        y.town(24, 24, 0, 0, 0);
        Bounds.due("no rock where the small town was not", y.rock(0, 0, 23, 23, false), 0);
        Bounds.due("no eyes there", y.cell(23, 23, 1), NONE);
    }

    private static OneSunbeam again() {
        OneSunbeam x = Bounds.busy();
        x.town(5, 5, 2, 2, 0);
        return x;
    }

    private static OneSunbeam anew() {
        OneSunbeam x = new OneSunbeam();
        x.town(5, 5, 2, 2, 0);
        return x;
    }

    private static void noRock(int x, int y, int toX, int toY) {
        String name = "rock " + x + ", " + y + ", " + toX + ", " + toY;
        Bounds.refused(name, NONE, town -> town.rock(x, y, toX, toY, true));
        Bounds.refused(name + " off", NONE, town -> town.rock(x, y, toX, toY, false));
    }

    private static void rockRectangle() {
        Bounds.by("CELLS of a rectangle (from x, y to toX, toY, both counted, in the TOWN, not ahead of these)");
        OneSunbeam x = new OneSunbeam();
        x.town(5, 6, 0, 0, 0);
        Bounds.due("the first cell", x.rock(0, 0, 0, 0, true), 1);
        Bounds.due("the last cell", x.rock(4, 5, 4, 5, true), 1);
        Bounds.due("a row, from and to counted", x.rock(0, 2, 4, 2, true), 5);
        Bounds.due("a column, from and to counted", x.rock(2, 0, 2, 5, true), 5);
        Bounds.due("the whole town", x.rock(0, 0, 4, 5, true), 30 - 12);
        noRock(-1, 0, 0, 0);
        noRock(0, -1, 0, 0);
        noRock(0, 0, 5, 0);
        noRock(0, 0, 0, 5);
        noRock(5, 0, 5, 0);
        noRock(0, 5, 0, 5);
        noRock(2, 2, 1, 2);
        noRock(2, 2, 2, 1);
        noRock(2, 2, -1, 2);
        noRock(LEAST, 0, 0, 0);
        noRock(0, 0, 0, MOST);
    }

    private static void rockCount() {
        Bounds.by("become ROCK, or not: how many are otherwise now");
        OneSunbeam x = Bounds.plain();
        Bounds.due("not rock at first", x.rock(0, 0, 7, 5, false), 0);
        Bounds.due("four", x.rock(1, 1, 2, 2, true), 4);
        Bounds.due("three of them more", x.rock(2, 2, 3, 3, true), 3);
        Bounds.due("none more", x.rock(1, 1, 2, 2, true), 0);
        Bounds.due("one off", x.rock(3, 3, 3, 3, false), 1);
        Bounds.due("it is off", x.cell(3, 3, 0), 0);
        Bounds.due("the one beside it is not", x.cell(3, 2, 0), 1);
        Bounds.due("all others off", x.rock(0, 0, 7, 5, false), 6);
    }

    private static void sunAt(int month, int hour, int way, int strength) {
        OneSunbeam x = new OneSunbeam();
        x.town(5, 5, 2, 2, 0);
        for (int by = 0; by < 8; by++) x.eyes(2 + Bounds.DX[by], 2 + Bounds.DY[by], 0);
        String name = "sun " + month + ", " + hour + ", " + way + ", " + strength;
        Bounds.due(name, x.sun(month, hour, way, strength), true);
        x.month(month);
        Bounds.due(name + ": strength", x.passes(hour, 2, 2), strength);
        int next = 24 * (2 + Bounds.DY[way]) + 2 + Bounds.DX[way];
        Bounds.due(name + ": way", x.light(hour, 6), strength == 0 ? -2 : next);
        for (int other = 0; other < 24; other++) {
            if (other != hour) Bounds.due(name + ": another hour", x.light(other, 2), NONE);
        }
        for (int other = 0; other < 12; other++) {
            x.month(other);
            if (other != month) Bounds.due(name + ": another month", x.light(hour, 2), NONE);
        }
    }

    private static void noSun(int month, int hour, int way, int strength) {
        String name = "sun " + month + ", " + hour + ", " + way + ", " + strength;
        Bounds.refused(name, 0, x -> x.sun(month, hour, way, strength) ? 1 : 0);
    }

    private static void sunMonthAndHour() {
        Bounds.by("SUN of a month (0 to 11) and an hour (0 to 23)");
        sunAt(0, 0, 0, 5);
        sunAt(11, 0, 0, 5);
        sunAt(0, 23, 0, 5);
        sunAt(11, 23, 0, 5);
        noSun(-1, 5, 0, 5);
        noSun(12, 5, 0, 5);
        noSun(3, -1, 0, 5);
        noSun(3, 24, 0, 5);
        noSun(-1, 24, 0, 5);
        noSun(LEAST, 0, 0, 5);
        noSun(0, MOST, 0, 5);
    }

    private static void sunWayAndStrength() {
        Bounds.by("a WAY and a strength (0 to 99999)");
        for (int way = 0; way < 8; way++) sunAt(4, 7, way, 3);
        sunAt(4, 7, 0, 0);
        sunAt(4, 7, 7, 0);
        sunAt(4, 7, 0, 1);
        sunAt(4, 7, 7, 99999);
        noSun(3, 0, 8, 5);
        noSun(3, 0, -2, 5);
        noSun(3, 0, -2, 0);
        noSun(3, 0, 8, 0);
        noSun(3, 0, 0, -1);
        noSun(3, 0, 0, 100000);
        noSun(3, 0, LEAST, 0);
        noSun(3, 0, 0, MOST);
        noSun(3, 0, 0, LEAST);
    }

    private static void darkSun() {
        Bounds.by("way NONE and strength 0: dark");
        OneSunbeam x = Bounds.plain();
        Bounds.due("it is light", x.light(0, 2), 1000);
        Bounds.due("dark", x.sun(0, 0, NONE, 0), true);
        Bounds.due("it is dark", x.light(0, 2), NONE);
        Bounds.due("dark where it was", x.sun(0, 0, NONE, 0), true);
        Bounds.due("light again", x.sun(0, 0, 0, 0), true);
        Bounds.due("a strength of 0 is not dark", x.light(0, 2), 0);
        noSun(3, 0, NONE, 1);
        noSun(3, 0, NONE, -1);
        noSun(3, 0, NONE, 99999);
        noSun(12, 0, NONE, 0);
        noSun(-1, 0, NONE, 0);
        noSun(3, 24, NONE, 0);
        noSun(3, -1, NONE, 0);
    }

    private static void darkAtFirst() {
        Bounds.by("or dark (at first)");
        OneSunbeam x = new OneSunbeam();
        x.town(4, 4, 0, 0, 0);
        for (int month = 0; month < 12; month++) {
            x.month(month);
            for (int hour = 0; hour < 24; hour++) Bounds.due("month " + month + " hour " + hour, x.light(hour, 2), NONE);
        }
    }

    private static void mirrorsAreFull() {
        Bounds.by("MIRRORS 0 to 23: NONE: there are 24");
        OneSunbeam x = Bounds.plain();
        for (int i = 0; i < 24; i++) Bounds.due("mirror", x.mirror(i % 8, 2 + i / 8, 0, 0, 0, 0, 0), i);
        Bounds.due("mirrors", x.count(2), 24);
        Bounds.due("where it stands", x.cell(7, 4, 2), 23);
        Bounds.refused(Bounds.FULL, "a 25th", NONE, town -> town.mirror(0, 0, 0, 0, 0, 0, 0));
        OneSunbeam y = Bounds.fullOfMirrors();
        y.mirror(0, 0, 0, 0, 0, 0, 0);
        Bounds.due("mirrors", y.count(2), 24);
        Bounds.due("none there", y.cell(0, 0, 2), NONE);
    }

    private static void oneToACell() {
        Bounds.by("MIRRORS, one to a CELL: NONE: one is there");
        Bounds.refused("another on mirror 0", NONE, x -> x.mirror(3, 2, 0, 0, 0, 0, 0));
        Bounds.refused("another on mirror 2, which is broken", NONE, x -> x.mirror(4, 3, 0, 0, 0, 0, 0));
        OneSunbeam x = Bounds.busy();
        Bounds.due("beside it", x.mirror(3, 1, 0, 0, 0, 0, 0), 3);
        Bounds.due("on rock", x.mirror(0, 0, 0, 0, 0, 0, 0), 4);
        Bounds.due("in the gap", x.mirror(2, 2, 0, 0, 0, 0, 0), 5);
    }

    private static void mirror(int... of) {
        OneSunbeam x = new OneSunbeam();
        x.town(5, 7, 0, 0, 0);
        Bounds.due("mirror", x.mirror(of[0], of[1], of[2], of[3], of[4], of[5], of[6]), 0);
        for (int what = 0; what < 7; what++) Bounds.due("of it " + what, x.mirrors(0, what), of[what]);
    }

    private static void noMirror(int... of) {
        String name = "mirror " + java.util.Arrays.toString(of);
        Bounds.refused(name, NONE, x -> x.mirror(of[0], of[1], of[2], of[3], of[4], of[5], of[6]));
    }

    private static void mirrorAsTold() {
        Bounds.by("slant (0 to 7), loss, through (0 to 1000 each), reach (0 to 4), owner (0 to 9): NONE: something is not as told");
        mirror(0, 0, 0, 0, 0, 0, 0);
        mirror(4, 6, 7, 1000, 1000, 4, 9);
        mirror(4, 0, 7, 0, 1000, 0, 9);
        mirror(0, 6, 0, 1000, 0, 4, 0);
        for (int place = 0; place < 7; place++) {
            int[] most = {4, 4, 7, 1000, 1000, 4, 9};
            int[] of = {4, 4, 1, 1, 1, 1, 1};
            of[place] = most[place] + 1;
            noMirror(of.clone());
            of[place] = -1;
            noMirror(of.clone());
            of[place] = MOST;
            noMirror(of.clone());
            of[place] = LEAST;
            noMirror(of.clone());
        }
    }

    private static void mirrorAtFirst() {
        Bounds.by("DUST (0 to 1000; 0 at first); broken or not (not at first); READINGS (none at first)");
        OneSunbeam x = Bounds.plain();
        x.mirror(1, 1, 7, 1000, 1000, 4, 9);
        Bounds.due("dust", x.mirrors(0, 7), 0);
        Bounds.due("broken", x.mirrors(0, 8), 0);
        Bounds.due("reading", x.mirrors(0, 9), NONE);
    }

    /** In a town with one mirror n is set, and is what the next call tells that it was. */
    private static void set(int what, int before, int n) {
        OneSunbeam x = Bounds.plain();
        x.mirror(5, 5, 3, 0, 0, 0, 0);
        Bounds.due("sets " + what + " to " + n, x.sets(0, what, n), before);
        int[] row = {2, 7, 8, 9};
        Bounds.due("it is " + n, x.mirrors(0, row[what]), n);
        Bounds.due("it was " + n, x.sets(0, what, 1), n);
        Bounds.due("it is 1", x.mirrors(0, row[what]), 1);
    }

    private static void notSet(int mirror, int what, int n) {
        Bounds.refused("sets " + mirror + ", " + what + ", " + n, -2, x -> x.sets(mirror, what, n));
    }

    private static void setsSlant() {
        Bounds.by("Of a MIRROR what 0: slant (0 to 7) becomes n");
        set(0, 3, 0);
        set(0, 3, 7);
        notSet(0, 0, -1);
        notSet(0, 0, 8);
        notSet(0, 0, MOST);
    }

    private static void setsDust() {
        Bounds.by("1: DUST (0 to 1000)");
        set(1, 0, 0);
        set(1, 0, 1000);
        notSet(0, 1, -1);
        notSet(0, 1, 1001);
        notSet(0, 1, LEAST);
    }

    private static void setsBroken() {
        Bounds.by("2: broken (1, 0)");
        set(2, 0, 0);
        set(2, 0, 1);
        notSet(0, 2, -1);
        notSet(0, 2, 2);
        notSet(2, 2, 2);
        notSet(0, 2, LEAST);
    }

    private static void setsReading() {
        Bounds.by("3: READING (0 to 99999; NONE: none)");
        set(3, NONE, 0);
        set(3, NONE, 99999);
        set(3, NONE, NONE);
        notSet(1, 3, -2);
        notSet(1, 3, 100000);
        notSet(1, 3, LEAST);
        OneSunbeam x = Bounds.busy();
        Bounds.due("a reading goes", x.sets(1, 3, NONE), 77);
        Bounds.due("none is left", x.mirrors(1, 9), NONE);
    }

    private static void setsWithoutThese() {
        Bounds.by("what it was; -2, and nothing happens, without these");
        Bounds.due("the last mirror", Bounds.busy().sets(2, 0, 0), 7);
        notSet(-1, 0, 1);
        notSet(3, 0, 1);
        notSet(24, 1, 1);
        notSet(LEAST, 0, 1);
        notSet(MOST, 0, 1);
        notSet(0, -1, 1);
        notSet(0, 4, 1);
        notSet(0, MOST, 1);
        Bounds.due("the last of 24", Bounds.fullOfMirrors().sets(23, 0, 0), 7);
        Bounds.refused(Bounds.FULL, "a 25th", -2, x -> x.sets(24, 0, 0));
    }

    private static OneSunbeam fullOfYards() {
        OneSunbeam x = Bounds.plain();
        for (int i = 0; i < 8; i++) x.yard(i, 0, i, 5, 100 + i, 10 * i);
        Bounds.law(x, "turn 0 1");
        return x;
    }

    private static void yardsAreFull() {
        Bounds.by("YARDS a to h (0 to 7): its number; NONE: there are 8");
        OneSunbeam x = Bounds.plain();
        for (int i = 0; i < 8; i++) Bounds.due("yard", x.yard(i, 0, i, 5, 1, 0), i);
        Bounds.due("yards", x.count(3), 8);
        Bounds.due("the eighth has its cells", x.cell(7, 5, 3), 7);
        Bounds.refused(TownBoundsTest::fullOfYards, "a ninth", NONE, town -> town.yard(0, 0, 0, 0, 1, 0));
    }

    private static void yard(int... of) {
        OneSunbeam x = new OneSunbeam();
        x.town(5, 7, 0, 0, 0);
        Bounds.due("yard", x.yard(of[0], of[1], of[2], of[3], of[4], of[5]), 0);
        int[] told = {0, of[5], of[4], of[0], of[1], of[2], of[3]};
        for (int what = 0; what < 7; what++) Bounds.due("of it " + what, x.yards(0, what), told[what]);
        int cells = 0;
        for (int cell = 0; cell < 35; cell++) cells += x.cell(cell % 5, cell / 5, 3) == 0 ? 1 : 0;
        Bounds.due("its cells", cells, (of[2] - of[0] + 1) * (of[3] - of[1] + 1));
        Bounds.due("from", x.cell(of[0], of[1], 3), 0);
        Bounds.due("to", x.cell(of[2], of[3], 3), 0);
    }

    private static void noYard(int... of) {
        String name = "yard " + java.util.Arrays.toString(of);
        Bounds.refused(name, NONE, x -> x.yard(of[0], of[1], of[2], of[3], of[4], of[5]));
    }

    private static void yardRectangle() {
        Bounds.by("A YARD (as rock())");
        yard(0, 0, 0, 0, 1, 0);
        yard(4, 6, 4, 6, 1, 0);
        yard(0, 0, 4, 6, 1, 0);
        yard(1, 2, 3, 2, 1, 0);
        yard(1, 2, 1, 5, 1, 0);
        noYard(-1, 0, 0, 0, 1, 0);
        noYard(0, -1, 0, 0, 1, 0);
        noYard(0, 0, 5, 0, 1, 0);
        noYard(0, 0, 0, 5, 1, 0);
        noYard(5, 0, 5, 0, 1, 0);
        noYard(0, 5, 0, 5, 1, 0);
        noYard(2, 2, 1, 2, 1, 0);
        noYard(2, 2, 2, 1, 1, 0);
        noYard(0, 0, MOST, 0, 1, 0);
        noYard(0, LEAST, 0, 0, 1, 0);
    }

    private static void yardTakeAndWant() {
        Bounds.by("take (1 to 1000), want (0 to 9999999)");
        yard(1, 1, 1, 1, 1, 0);
        yard(1, 1, 1, 1, 1000, 9999999);
        noYard(1, 1, 1, 1, 0, 0);
        noYard(1, 1, 1, 1, 1001, 0);
        noYard(1, 1, 1, 1, 1, -1);
        noYard(1, 1, 1, 1, 1, 10000000);
        noYard(1, 1, 1, 1, LEAST, 0);
        noYard(1, 1, 1, 1, 1, MOST);
    }

    private static void eyesBound() {
        Bounds.by("EYES: of a CELL a bound (0 to 99999; none at first): EYES of a CELL (NONE: none): what they were");
        OneSunbeam x = Bounds.plain();
        for (int cell = 0; cell < 48; cell++) Bounds.due("none at first", x.cell(cell % 8, cell / 8, 1), NONE);
        Bounds.due("a bound of 0", x.eyes(7, 5, 0), NONE);
        Bounds.due("it is 0", x.cell(7, 5, 1), 0);
        Bounds.due("the highest", x.eyes(7, 5, 99999), 0);
        Bounds.due("none", x.eyes(7, 5, NONE), 99999);
        Bounds.due("there are none", x.cell(7, 5, 1), NONE);
        Bounds.due("none where there are none", x.eyes(7, 5, NONE), NONE);
        Bounds.refused("a bound below", -2, town -> town.eyes(4, 4, -2));
        Bounds.refused("a bound above", -2, town -> town.eyes(4, 4, 100000));
        Bounds.refused("the least bound", -2, town -> town.eyes(4, 4, LEAST));
        Bounds.refused("the greatest bound", -2, town -> town.eyes(4, 4, MOST));
    }

    private static void eyesCell() {
        Bounds.by("EYES of a CELL: -2, and nothing happens, without these");
        OneSunbeam x = new OneSunbeam();
        x.town(5, 7, 0, 0, 0);
        Bounds.due("the first cell", x.eyes(0, 0, 3), NONE);
        Bounds.due("the last cell", x.eyes(4, 6, 4), NONE);
        Bounds.due("they are there", x.cell(4, 6, 1), 4);
        Bounds.refused("left of it", -2, town -> town.eyes(-1, 0, 1));
        Bounds.refused("right of it", -2, town -> town.eyes(5, 0, 1));
        Bounds.refused("above it", -2, town -> town.eyes(0, -1, 1));
        Bounds.refused("below it", -2, town -> town.eyes(0, 5, 1));
        Bounds.refused("none below it", -2, town -> town.eyes(0, 5, NONE));
        Bounds.refused("far", -2, town -> town.eyes(LEAST, MOST, 1));
    }

    private static void month() {
        Bounds.by("MONTH becomes n: what it was; NONE, and nothing happens, without these (no TOWN, too)");
        OneSunbeam x = Bounds.plain();
        Bounds.due("0 at first", x.count(4), 0);
        Bounds.due("the last", x.month(11), 0);
        Bounds.due("it is the last", x.count(4), 11);
        Bounds.due("the first", x.month(0), 11);
        Bounds.due("the same", x.month(0), 0);
        Bounds.refused("month -1", NONE, town -> town.month(-1));
        Bounds.refused("month 12", NONE, town -> town.month(12));
        Bounds.refused("the least", NONE, town -> town.month(LEAST));
        Bounds.refused("the greatest", NONE, town -> town.month(MOST));
        Bounds.refused(Bounds.NEW, "no town", NONE, town -> town.month(1));
        OneSunbeam y = new OneSunbeam();
        y.month(5);
        y.town(4, 4, 0, 0, 0);
        Bounds.due("0 at first", y.count(4), 0);
    }

    private static void falls() {
        Bounds.by("Dust fall becomes n (0 to 99): what it was; NONE, and nothing happens, without these");
        OneSunbeam x = Bounds.plain();
        Bounds.due("0 at first", x.count(7), 0);
        Bounds.due("the most", x.falls(99), 0);
        Bounds.due("it is the most", x.count(7), 99);
        Bounds.due("none", x.falls(0), 99);
        Bounds.due("it is none", x.count(7), 0);
        Bounds.refused("falls -1", NONE, town -> town.falls(-1));
        Bounds.refused("falls 100", NONE, town -> town.falls(100));
        Bounds.refused("the least", NONE, town -> town.falls(LEAST));
        Bounds.refused("the greatest", NONE, town -> town.falls(MOST));
        Bounds.refused(Bounds.NEW, "no town", NONE, town -> town.falls(1));
    }

    private static void mirrorsReader() {
        Bounds.by("Of a MIRROR what 0: x .. 9: READING (NONE: none). -2 without these");
        OneSunbeam x = Bounds.busy();
        int[][] told = {{3, 2, 5, 5, 100, 1, 4, 7, 0, NONE}, {2, 3, 6, 0, 0, 2, 0, 40, 0, 77}, {4, 3, 7, 30, 20, 4, 4, 7, 1, NONE}};
        for (int mirror = 0; mirror < 3; mirror++) {
            for (int what = mirror == 1 ? 3 : 0; what < 10; what++) {
                Bounds.due("mirror " + mirror + " what " + what, x.mirrors(mirror, what), told[mirror][what]);
            }
        }
        Bounds.refused("what -1", -2, town -> town.mirrors(0, -1));
        Bounds.refused("what 10", -2, town -> town.mirrors(0, 10));
        Bounds.refused("mirror -1", -2, town -> town.mirrors(-1, 0));
        Bounds.refused("mirror 3", -2, town -> town.mirrors(3, 0));
        Bounds.refused("mirror 24", -2, town -> town.mirrors(24, 0));
        Bounds.refused("far", -2, town -> town.mirrors(LEAST, MOST));
        Bounds.due("the last of 24", Bounds.fullOfMirrors().mirrors(23, 0), 7);
        Bounds.due("a 25th", Bounds.fullOfMirrors().mirrors(24, 0), -2);
    }

    private static void yardsReader() {
        Bounds.by("Of a YARD what 0: LIGHT, 1: want, 2: take, 3 to 6: its rectangle. NONE without these");
        OneSunbeam x = Bounds.busy();
        int[] told = {150, 300, 3, 3, 4, 4};
        for (int what = 1; what < 7; what++) Bounds.due("what " + what, x.yards(0, what), told[what - 1]);
        Bounds.due("light is 0 at first", fullOfYards().yards(7, 0), 0);
        Bounds.refused("what -1", NONE, town -> town.yards(0, -1));
        Bounds.refused("what 7", NONE, town -> town.yards(0, 7));
        Bounds.refused("yard -1", NONE, town -> town.yards(-1, 0));
        Bounds.refused("yard 2", NONE, town -> town.yards(2, 0));
        Bounds.refused("yard 8", NONE, town -> town.yards(8, 0));
        Bounds.refused("far", NONE, town -> town.yards(LEAST, MOST));
        Bounds.due("the last of 8", fullOfYards().yards(7, 2), 107);
        Bounds.due("a ninth", fullOfYards().yards(8, 2), NONE);
    }

    private static void cellReader() {
        Bounds.by("Of a CELL what 0: 1 if it is ROCK, else 0, 1: EYES (NONE: none), 2: its MIRROR (NONE: none). -2 without these");
        OneSunbeam x = Bounds.busy();
        Bounds.due("rock", x.cell(1, 0, 0), 1);
        Bounds.due("no rock", x.cell(2, 0, 0), 0);
        Bounds.due("eyes", x.cell(4, 4, 1), 9);
        Bounds.due("no eyes", x.cell(4, 3, 1), NONE);
        Bounds.due("a mirror", x.cell(3, 2, 2), 0);
        Bounds.due("a broken one", x.cell(4, 3, 2), 2);
        Bounds.due("no mirror", x.cell(3, 3, 2), NONE);
        Bounds.refused("what -1", -2, town -> town.cell(0, 0, -1));
        Bounds.refused("what 4", -2, town -> town.cell(0, 0, 4));
        Bounds.refused("left of it", -2, town -> town.cell(-1, 0, 0));
        Bounds.refused("right of it", -2, town -> town.cell(5, 0, 0));
        Bounds.refused("above it", -2, town -> town.cell(0, -1, 0));
        Bounds.refused("below it", -2, town -> town.cell(0, 5, 0));
        Bounds.refused("far", -2, town -> town.cell(MOST, LEAST, 0));
    }

    private static void firstYard() {
        Bounds.by("3: the first YARD that has it (NONE: none)");
        OneSunbeam x = Bounds.busy();
        Bounds.due("both have it", x.cell(3, 3, 3), 0);
        Bounds.due("the first alone", x.cell(4, 4, 3), 0);
        Bounds.due("the other alone", x.cell(1, 1, 3), 1);
        Bounds.due("none", x.cell(0, 1, 3), NONE);
        Bounds.due("right of the first", x.cell(2, 4, 3), NONE);
        Bounds.due("a third over all", x.yard(0, 0, 4, 4, 1, 0), 2);
        Bounds.due("it has the rest", x.cell(0, 1, 3), 2);
        Bounds.due("but not those", x.cell(3, 3, 3), 0);
    }

    private static void count() {
        Bounds.by("What 0: columns .. 9: bytes of the TAPE. NONE for others");
        OneSunbeam x = new OneSunbeam();
        x.town(5, 7, 0, 0, 0);
        x.mirror(1, 1, 0, 0, 0, 0, 0);
        x.mirror(1, 2, 0, 0, 0, 0, 0);
        x.yard(0, 0, 0, 0, 1, 0);
        x.yard(0, 0, 0, 0, 1, 1);
        x.yard(0, 0, 0, 0, 1, 0);
        x.yard(0, 0, 0, 0, 1, 0);
        x.falls(12);
        for (int i = 0; i < 6; i++) Bounds.law(x, "turn 0 1");
        x.days(5, 8);
        x.month(9);
        x.feed(0, 0, 0, 0, 0);
        int[] told = {5, 7, 2, 4, 9, 8, 3, 12, 6, 20};
        for (int what = 0; what < 10; what++) Bounds.due("count " + what, x.count(what), told[what]);
        Bounds.refused("what -1", NONE, town -> town.count(-1));
        Bounds.refused("what 10", NONE, town -> town.count(10));
        Bounds.refused("the least", NONE, town -> town.count(LEAST));
        Bounds.refused("the greatest", NONE, town -> town.count(MOST));
    }

    private static void countWithoutTown() {
        Bounds.by("7: dust fall (NONE without a TOWN), 8: LAWS, 9: bytes of the TAPE");
        OneSunbeam x = new OneSunbeam();
        Bounds.law(x, "turn 0 1");
        Bounds.feed(x, "abc");
        for (int what = 0; what < 8; what++) Bounds.due("count " + what, x.count(what), NONE);
        Bounds.due("laws", x.count(8), 1);
        Bounds.due("tape", x.count(9), 3);
        Bounds.due("what -1", x.count(-1), NONE);
        Bounds.due("what 10", x.count(10), NONE);
    }

    private static void image() {
        Bounds.by("IMAGES 0 to 3: An IMAGE is made: DAY; NONE without it, or without a TOWN");
        for (int k = 0; k < 4; k++) {
            OneSunbeam x = Bounds.busy();
            Bounds.due("image " + k, x.image(k), 1);
            x.days(0, 2);
            Bounds.due("back " + k, x.back(k), 1);
            Bounds.due("day", x.count(5), 1);
        }
        Bounds.refused("image -1", NONE, x -> x.image(-1));
        Bounds.refused("image 4", NONE, x -> x.image(4));
        Bounds.refused("the least", NONE, x -> x.image(LEAST));
        Bounds.refused("the greatest", NONE, x -> x.image(MOST));
        for (int k = 0; k < 4; k++) {
            int of = k;
            Bounds.refused(Bounds.NEW, "without a town", NONE, x -> x.image(of));
        }
    }

    private static void imageMadeAnew() {
        Bounds.by("An IMAGE is made: all as it is");
        OneSunbeam x = Bounds.plain();
        Bounds.law(x, "turn 0 1");
        for (int k = 0; k < 4; k++) {
            Bounds.due("image", x.image(k), k);
            x.days(0, 1);
        }
        Bounds.due("in place of another", x.image(2), 4);
        int[] day = {0, 1, 4, 3};
        for (int k = 0; k < 4; k++) Bounds.due("back " + k, x.back(k), day[k]);
    }

    private static void wreck(OneSunbeam x) {
        x.rock(0, 0, 4, 4, true);
        for (int cell = 0; cell < 25; cell++) x.eyes(cell % 5, cell / 5, 50 + cell);
        for (int month = 0; month < 12; month++) x.sun(month, 2 * month, 7 - month % 8, 9999);
        for (int hour = 0; hour < 24; hour++) x.sun(3, hour, NONE, 0);
        for (int mirror = 0; mirror < 3; mirror++) {
            x.sets(mirror, 0, mirror);
            x.sets(mirror, 1, 999);
            x.sets(mirror, 2, 1 - mirror % 2);
            x.sets(mirror, 3, 5 + mirror);
        }
        x.mirror(0, 4, 0, 0, 0, 0, 0);
        x.yard(0, 0, 4, 4, 1000, 1);
        x.days(1, 3);
        x.month(8);
        x.falls(98);
    }

    private static OneSunbeam wreckedAndBack(boolean isOtherTown) {
        OneSunbeam x = Bounds.busy();
        x.image(0);
        if (isOtherTown) x.town(24, 4, 0, 0, 1000);
        else wreck(x);
        Bounds.due("back", x.back(0), 1);
        return x;
    }

    private static void back() {
        Bounds.by("All is as in an IMAGE: DAY");
        for (boolean isOtherTown : new boolean[] {false, true}) {
            Bounds.due("what stands", Bounds.seen(Bounds::stands, wreckedAndBack(isOtherTown)), Bounds.seen(Bounds::stands, Bounds.busy()));
            Bounds.due("ways", Bounds.seen(Bounds::ways, wreckedAndBack(isOtherTown)), Bounds.seen(Bounds::ways, Bounds.busy()));
            Bounds.due("strengths", Bounds.seen(Bounds::strengths, wreckedAndBack(isOtherTown)), Bounds.seen(Bounds::strengths, Bounds.busy()));
        }
        OneSunbeam x = wreckedAndBack(false);
        wreck(x);
        Bounds.due("an image can be gone back to again", x.back(0), 1);
        Bounds.due("what stands", Bounds.seen(Bounds::stands, x), Bounds.seen(Bounds::stands, Bounds.busy()));
    }

    private static void backNeverMade() {
        Bounds.by("NONE, and nothing happens, if it was never made, or without it");
        Bounds.due("made", Bounds.busy().back(1), 0);
        Bounds.due("made", Bounds.busy().back(3), 1);
        Bounds.refused("back 0, never made", NONE, x -> x.back(0));
        Bounds.refused("back 2, never made", NONE, x -> x.back(2));
        Bounds.refused("back -1", NONE, x -> x.back(-1));
        Bounds.refused("back 4", NONE, x -> x.back(4));
        Bounds.refused("the least", NONE, x -> x.back(LEAST));
        Bounds.refused("the greatest", NONE, x -> x.back(MOST));
        Bounds.refused(Bounds.NEW, "without a town", NONE, x -> x.back(3));
    }

    private static void lawsAndTapeStay() {
        Bounds.by("all but the LAWS and the TAPE, as it is; gone back to, it is as it was (these stay)");
        OneSunbeam x = Bounds.busy();
        x.image(0);
        Bounds.due("a law more", Bounds.law(x, "turn 0 3"), 2);
        x.feed(0, 0, 0, 0, 0);
        x.feed(0, 0, 0, 0, 0);
        Bounds.due("back", x.back(0), 1);
        Bounds.due("laws", x.count(8), 3);
        Bounds.due("tape", x.count(9), 40);
        Bounds.due("the law can be used", x.days(2, 10) >= 0, true);
        Bounds.due("it turned a mirror", x.mirrors(0, 2), 3);
    }
}
