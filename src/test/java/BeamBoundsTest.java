/** The boundary cases of a beam on its way, and of what an hour's light tells: Terms I and promises 18 to 20. */
public final class BeamBoundsTest {
    private static final int NONE = OneSunbeam.NONE;
    private static final int LEAST = Integer.MIN_VALUE;
    private static final int MOST = Integer.MAX_VALUE;

    public static void main(String[] arguments) {
        ways();
        endsIfZero();
        rock();
        outOfTheTown();
        air();
        yard();
        firstYardAlone();
        oneBehindTheOther();
        lossAndDust();
        brokenMirror();
        throughAboveZero();
        slantLessWay();
        passesBehindTheAir();
        passesTheMost();
        sixtyWait();
        behindAllOthers();
        twoThousandCells();
        rockAndOutCounted();
        oneMoreIsSpilt();
        darkHours();
        getsRefused();
        lightRefused();
        blind();
        firstBlind();
        beams();
        passesRefused();
        Bounds.end();
    }

    /** A town of 5 by 5, the gap in the middle, without air. */
    private static OneSunbeam middle(int way, int strength) {
        OneSunbeam x = new OneSunbeam();
        x.town(5, 5, 2, 2, 0);
        x.sun(0, 0, way, strength);
        return x;
    }

    /** A row of light from the gap at (0, 1) to the right, in a town of 8 by 6 with so much air. */
    private static OneSunbeam row(int air, int strength) {
        OneSunbeam x = new OneSunbeam();
        x.town(8, 6, 0, 1, air);
        x.sun(0, 0, 0, strength);
        return x;
    }

    private static void ways() {
        Bounds.by("WAYS 0 to 7: right, right and down, down, left and down, left, left and up, up, right and up");
        int[][] next = {{3, 2}, {3, 3}, {2, 3}, {1, 3}, {1, 2}, {1, 1}, {2, 1}, {3, 1}};
        for (int way = 0; way < 8; way++) {
            OneSunbeam x = middle(way, 7);
            for (int other = 0; other < 8; other++) {
                Bounds.due("way " + way, x.passes(0, next[other][0], next[other][1]), other == way ? 7 : 0);
            }
        }
    }

    private static void endsIfZero() {
        Bounds.by("It ends if it is 0");
        OneSunbeam x = middle(0, 0);
        Bounds.due("cells of 0", x.light(0, 3), 0);
        Bounds.due("spilt of 0", x.light(0, 2), 0);
        Bounds.due("lost of 0", x.light(0, 1), 0);
        Bounds.due("beams of 0", x.light(0, 4), 1);
        x.sun(0, 0, 0, 1);
        Bounds.due("cells of 1", x.light(0, 3), 4);
        Bounds.due("spilt of 1", x.light(0, 2), 1);
        x.yard(3, 2, 3, 2, 1000, 0);
        Bounds.due("a yard takes all: it comes no further", x.light(0, 3), 2);
        Bounds.due("nothing is spilt", x.light(0, 2), 0);
        Bounds.due("it did pass there", x.passes(0, 3, 2), 1);
    }

    private static void rock() {
        Bounds.by("In rock it is SPILT and ends");
        OneSunbeam x = middle(0, 50);
        x.yard(0, 0, 4, 4, 100, 0);
        x.mirror(3, 2, 6, 100, 0, 0, 0);
        x.rock(3, 2, 3, 2, true);
        Bounds.due("the yard of the gap alone", x.gets(0, 0), 5);
        Bounds.due("spilt", x.light(0, 2), 45);
        Bounds.due("nothing is lost in rock", x.light(0, 1), 0);
        Bounds.due("cells, the rock counted", x.light(0, 3), 2);
        Bounds.due("nothing passes in rock", x.passes(0, 3, 2), 0);
        x.rock(2, 2, 2, 2, true);
        Bounds.due("a gap in rock", x.light(0, 2), 50);
        Bounds.due("cells", x.light(0, 3), 1);
        Bounds.due("the yard", x.gets(0, 0), 0);
        Bounds.due("nothing passes", x.passes(0, 2, 2), 0);
    }

    private static void outOfTheTown() {
        Bounds.by("out of the TOWN, it is SPILT and ends");
        for (int way = 0; way < 8; way++) {
            OneSunbeam x = middle(way, 99999);
            Bounds.due("cells by way " + way, x.light(0, 3), 4);
            Bounds.due("spilt by way " + way, x.light(0, 2), 99999);
            Bounds.due("at the edge", x.passes(0, 2 + 2 * Bounds.DX[way], 2 + 2 * Bounds.DY[way]), 99999);
        }
        for (int corner = 0; corner < 4; corner++) {
            OneSunbeam x = new OneSunbeam();
            x.town(24, 24, corner % 2 * 23, corner / 2 * 23, 0);
            for (int way = 0; way < 8; way++) {
                x.sun(0, 0, way, 9);
                boolean isInX = corner % 2 == 0 ? Bounds.DX[way] >= 0 : Bounds.DX[way] <= 0;
                boolean isInY = corner / 2 == 0 ? Bounds.DY[way] >= 0 : Bounds.DY[way] <= 0;
                Bounds.due("corner " + corner + " way " + way, x.light(0, 3), isInX && isInY ? 25 : 2);
                Bounds.due("spilt", x.light(0, 2), 9);
            }
        }
    }

    private static void air() {
        Bounds.by("each of what is left, downwards: air in thousandths is LOST");
        Bounds.due("1 of 999", row(1, 999).light(0, 1), 0);
        Bounds.due("1 of 1000", row(1, 1000).light(0, 1), 1);
        Bounds.due("1 of 1000, 999", row(1, 1000).light(0, 2), 999);
        Bounds.due("1 of 1001, 1000, 999", row(1, 1001).light(0, 1), 2);
        Bounds.due("1 of 1999", row(1, 1999).passes(0, 0, 1), 1998);
        Bounds.due("1 of 2000", row(1, 2000).passes(0, 0, 1), 1998);
        Bounds.due("999 of 1", row(999, 1).light(0, 1), 0);
        Bounds.due("1000 of 1", row(1000, 1).light(0, 1), 1);
        Bounds.due("none goes on", row(1000, 1).light(0, 3), 1);
        Bounds.due("500 of 99999", row(500, 99999).passes(0, 0, 1), 50000);
    }

    private static int takenOf(int take, int strength) {
        OneSunbeam x = row(0, strength);
        x.yard(3, 1, 3, 1, take, 0);
        Bounds.due("what goes on", x.light(0, 2), strength - x.gets(0, 0));
        return x.gets(0, 0);
    }

    private static void yard() {
        Bounds.by("the first YARD that has the CELL gets take in thousandths");
        Bounds.due("1 of 999", takenOf(1, 999), 0);
        Bounds.due("1 of 1000", takenOf(1, 1000), 1);
        Bounds.due("1 of 1999", takenOf(1, 1999), 1);
        Bounds.due("999 of 1", takenOf(999, 1), 0);
        Bounds.due("999 of 1000", takenOf(999, 1000), 999);
        Bounds.due("1000 of 1", takenOf(1000, 1), 1);
        Bounds.due("1000 of 99999", takenOf(1000, 99999), 99999);
    }

    private static void firstYardAlone() {
        Bounds.by("the first YARD that has the CELL");
        OneSunbeam x = row(0, 1000);
        x.yard(2, 1, 3, 1, 100, 0);
        x.yard(3, 1, 4, 1, 100, 0);
        Bounds.due("100 and 90", x.gets(0, 0), 190);
        Bounds.due("the other has the third cell alone", x.gets(0, 1), 81);
    }

    private static void oneBehindTheOther() {
        Bounds.by("one behind the other, each of what is left");
        OneSunbeam x = row(500, 1000);
        x.yard(0, 1, 0, 1, 500, 0);
        x.mirror(0, 1, 2, 400, 500, 0, 0);
        x.sets(0, 1, 100);
        x.eyes(1, 1, 0);
        // 500 in the air, 250 to the yard, 125 in the mirror; 62 go through and 63 down: 31 and 32 behind the air there.
        Bounds.due("behind the air", x.passes(0, 0, 1), 500);
        Bounds.due("yard", x.gets(0, 0), 250);
        Bounds.due("through", x.passes(0, 1, 1), 31);
        Bounds.due("the rest", x.passes(0, 0, 2), 32);
    }

    private static int lostBy(int loss, int dust, int strength) {
        OneSunbeam x = row(0, strength);
        x.mirror(3, 1, 2, loss, 0, 0, 0);
        x.sets(0, 1, dust);
        Bounds.due("what goes on", x.light(0, 2), strength - x.light(0, 1));
        return x.light(0, 1);
    }

    private static void lossAndDust() {
        Bounds.by("loss and DUST together (1000 at most) in thousandths are LOST");
        Bounds.due("none", lostBy(0, 0, 99999), 0);
        Bounds.due("1 of 999", lostBy(1, 0, 999), 0);
        Bounds.due("1 of 1000", lostBy(0, 1, 1000), 1);
        Bounds.due("together, not each", lostBy(1, 1, 500), 1);
        Bounds.due("999", lostBy(400, 599, 1000), 999);
        Bounds.due("1000", lostBy(400, 600, 1000), 1000);
        Bounds.due("1001", lostBy(401, 600, 1000), 1000);
        Bounds.due("2000", lostBy(1000, 1000, 99999), 99999);
    }

    private static void brokenMirror() {
        Bounds.by("a MIRROR that is there and not broken");
        OneSunbeam x = row(0, 1000);
        x.mirror(3, 1, 2, 100, 100, 0, 0);
        Bounds.due("it turns", x.passes(0, 3, 2), 810);
        Bounds.due("two beams", x.light(0, 4), 2);
        x.sets(0, 2, 1);
        Bounds.due("it does not turn", x.passes(0, 3, 2), 0);
        Bounds.due("nor lose", x.light(0, 1), 0);
        Bounds.due("straight on", x.passes(0, 7, 1), 1000);
        Bounds.due("one beam", x.light(0, 4), 1);
        x.sets(0, 2, 0);
        Bounds.due("whole again", x.passes(0, 3, 2), 810);
    }

    private static void throughIs(int through, int strength, int beams, int straight, int turned) {
        OneSunbeam x = row(0, strength);
        x.mirror(3, 1, 2, 0, through, 0, 0);
        String name = through + " of " + strength;
        Bounds.due(name + ": beams", x.light(0, 4), beams);
        Bounds.due(name + ": straight on", x.passes(0, 4, 1), straight);
        Bounds.due(name + ": turned", x.passes(0, 3, 2), turned);
        int cells = 4 + (straight > 0 ? 5 : 0) + (turned > 0 ? 5 : 0);
        Bounds.due(name + ": cells", x.light(0, 3), cells);
    }

    private static void throughAboveZero() {
        Bounds.by("through in thousandths goes on by the same WAY, as a BEAM of its own, if it is above 0");
        throughIs(0, 99999, 1, 0, 99999);
        throughIs(1, 999, 1, 0, 999);
        throughIs(1, 1000, 2, 1, 999);
        throughIs(999, 1, 1, 0, 1);
        throughIs(999, 1000, 2, 999, 1);
        throughIs(1000, 1, 2, 1, 0);
        throughIs(1000, 99999, 2, 99999, 0);
    }

    private static void slantLessWay() {
        Bounds.by("the rest goes on by (slant less WAY), of 8 the rest (0 to 7)");
        for (int way = 0; way < 8; way++) {
            OneSunbeam x = middle(way, 5);
            x.mirror(2, 2, 0, 0, 0, 0, 0);
            for (int by = 0; by < 8; by++) x.eyes(2 + Bounds.DX[by], 2 + Bounds.DY[by], 0);
            for (int slant = 0; slant < 8; slant++) {
                x.sets(0, 0, slant);
                int goes = slant >= way ? slant - way : slant - way + 8;
                int next = 24 * (2 + Bounds.DY[goes]) + 2 + Bounds.DX[goes];
                Bounds.due("slant " + slant + " way " + way, x.light(0, 6), next);
                Bounds.due("there alone", x.light(0, 5), 1);
            }
        }
    }

    private static void passesBehindTheAir() {
        Bounds.by("What passes a CELL: what is left there behind the air");
        OneSunbeam x = row(100, 1000);
        x.yard(0, 1, 0, 1, 500, 0);
        x.mirror(1, 1, 0, 500, 0, 0, 0);
        Bounds.due("behind the air, ahead of the yard", x.passes(0, 0, 1), 900);
        Bounds.due("behind the air, ahead of the mirror", x.passes(0, 1, 1), 405);
        Bounds.due("behind both", x.passes(0, 2, 1), 183);
        Bounds.due("a cell without light", x.passes(0, 2, 2), 0);
    }

    private static void passesTheMost() {
        Bounds.by("(of all BEAMS the most)");
        OneSunbeam x = row(0, 1000);
        x.mirror(0, 1, 2, 0, 900, 0, 0);
        x.mirror(0, 3, 2, 0, 0, 0, 0);
        x.mirror(3, 1, 2, 0, 0, 0, 0);
        Bounds.due("100 alone", x.passes(0, 2, 3), 100);
        Bounds.due("100, then 900", x.passes(0, 3, 3), 900);
        Bounds.due("not both together", x.passes(0, 3, 4), 900);
        x.mirror(5, 3, 4, 500, 0, 0, 0);
        Bounds.due("100, then 50 of the same beam", x.passes(0, 4, 3), 100);
    }

    /**
     * Straight mirrors in a row: those of the first kind let beams through that are let through by each such mirror behind
     * it once more, those of the second kind let only the first beam through. All ends in a yard, down at the right.
     */
    private static OneSunbeam straightMirrors(int[] firstKind, int[] secondKind, int down) {
        OneSunbeam x = new OneSunbeam();
        x.town(24, 24, 0, 1, 0);
        x.sun(0, 0, 0, 99999);
        for (int column : firstKind) x.mirror(column, 1, 0, 0, 9, 0, 0);
        for (int column : secondKind) x.mirror(column, 1, 0, 0, 1, 0, 0);
        if (down > 0) x.mirror(23, 1, 2, 0, 0, 0, 0);
        x.yard(23, 1 + down, 23, 1 + down, 1000, 0);
        return x;
    }

    private static void sixtyWait() {
        Bounds.by("60 may wait at once; one more is SPILT");
        int[] eleven = {1, 2, 3, 4, 5, 6, 7, 8, 9, 10, 11};
        // 11 wait, then ever fewer come behind each that goes: 56 at most, and those of the second kind.
        OneSunbeam x = straightMirrors(eleven, new int[] {12, 13, 14, 15}, 0);
        Bounds.due("60: none is spilt", x.light(0, 2), 0);
        Bounds.due("all is got", x.light(0, 0), 99999);
        Bounds.due("all beams", x.light(0, 4), 1 + 11 + 4 + 55);
        Bounds.due("cells", x.light(0, 3), 1074);
        OneSunbeam y = straightMirrors(eleven, new int[] {12, 13, 14, 15, 16}, 0);
        Bounds.due("61: one is spilt", y.light(0, 2), 7);
        Bounds.due("all others are got", y.light(0, 0), 99992);
        Bounds.due("all beams but that one", y.light(0, 4), 1 + 11 + 5 + 55 - 1);
        Bounds.due("cells", y.light(0, 3), 1069);
    }

    /** Light that mirror P, at (1, 1), lets through goes round for ever; it comes into P by ways 4 and 2. */
    private static void addRound(OneSunbeam x) {
        x.mirror(1, 1, 2, 0, 3, 0, 0);
        x.mirror(1, 0, 0, 0, 0, 0, 0);
        x.mirror(23, 1, 4, 0, 0, 0, 0);
    }

    private static void behindAllOthers() {
        Bounds.by("as a BEAM of its own, behind all others that wait; then those that wait, in their order");
        OneSunbeam x = new OneSunbeam();
        x.town(24, 6, 1, 1, 0);
        x.sun(0, 0, 0, 99999);
        addRound(x);
        x.mirror(1, 3, 2, 0, 100, 0, 0);
        x.yard(1, 4, 1, 4, 1000, 0);
        Bounds.due("the one ahead uses all cells up", x.gets(0, 0), 0);
        OneSunbeam y = new OneSunbeam();
        y.town(24, 6, 0, 0, 0);
        y.sun(0, 0, 2, 99999);
        y.mirror(0, 1, 2, 0, 100, 0, 0);
        addRound(y);
        y.yard(0, 4, 0, 4, 1000, 0);
        Bounds.due("it is behind", y.gets(0, 0), 9999);
        Bounds.due("it goes round then", y.light(0, 3), 2000);
    }

    private static int gotToAndFro(int column) {
        OneSunbeam x = new OneSunbeam();
        x.town(4, 4, 1, 1, 0);
        x.sun(0, 0, 0, 1999);
        x.mirror(0, 1, 4, 0, 0, 0, 0);
        x.mirror(3, 1, 4, 0, 0, 0, 0);
        x.yard(column, 1, column, 1, 1, 0);
        Bounds.due("cells", x.light(0, 3), 2000);
        Bounds.due("the rest is spilt", x.light(0, 2), 1999 - x.gets(0, 0));
        return x.gets(0, 0);
    }

    private static void twoThousandCells() {
        Bounds.by("BEAMS come into 2000 CELLS in all");
        // Columns 1 2 3 2 1 0 and again: the 2000th cell is in column 2, the next would be in column 3; each visit gives 1.
        Bounds.due("the 2000th counts", gotToAndFro(2), 334 + 333);
        Bounds.due("the 2001st does not", gotToAndFro(3), 333);
    }

    private static int gotGoingRound(int column, boolean isRock) {
        OneSunbeam x = new OneSunbeam();
        x.town(24, 4, 1, 1, 0);
        x.sun(0, 0, 0, 99999);
        addRound(x);
        x.yard(column, 1, column, 1, 5, 0);
        if (isRock) x.rock(1, 3, 1, 3, true);
        Bounds.due("cells", x.light(0, 3), 2000);
        return x.gets(0, 0);
    }

    private static void rockAndOutCounted() {
        Bounds.by("rock and what is out of the TOWN counted");
        // The first beam goes down and out by 4 cells; 1996 are 43 rounds of 46 and 18 more, from column 2 to 19.
        Bounds.due("with the cell that is out, the 2000th", gotGoingRound(19, false), 2 * 43 + 1);
        Bounds.due("with the cell that is out, the next", gotGoingRound(20, false), 2 * 43);
        Bounds.due("with the rock, the 2000th", gotGoingRound(20, true), 2 * 43 + 1);
        Bounds.due("with the rock, the next", gotGoingRound(21, true), 2 * 43);
    }

    private static void oneMoreIsSpilt() {
        Bounds.by("what would come into one more is SPILT");
        for (int strength = 1; strength < 3; strength++) {
            OneSunbeam x = new OneSunbeam();
            x.town(4, 4, 1, 1, 0);
            x.sun(0, 0, 0, strength);
            x.mirror(0, 1, 4, 0, 0, 0, 0);
            x.mirror(3, 1, 4, 0, 0, 0, 0);
            Bounds.due("cells of " + strength, x.light(0, 3), 2000);
            Bounds.due("spilt of " + strength, x.light(0, 2), strength);
        }
        int[] eleven = {1, 2, 3, 4, 5, 6, 7, 8, 9, 10, 17};
        int[][] told = {{14, 1999, 0}, {13, 2000, 0}, {12, 2000, 7}};
        for (int[] of : told) {
            OneSunbeam x = straightMirrors(eleven, new int[] {of[0]}, 15);
            Bounds.due("cells, column " + of[0], x.light(0, 3), of[1]);
            Bounds.due("spilt, column " + of[0], x.light(0, 2), of[2]);
            Bounds.due("got, column " + of[0], x.light(0, 0), 99999 - of[2]);
            Bounds.due("beams, column " + of[0], x.light(0, 4), 1 + 11 + 1 + 55);
        }
    }

    private static OneSunbeam lastHoursLit() {
        OneSunbeam x = new OneSunbeam();
        x.town(5, 5, 2, 2, 0);
        for (int month = 0; month < 12; month++) {
            x.sun(month, 0, 0, 100);
            x.sun(month, 23, 0, 200);
        }
        x.mirror(3, 2, 2, 0, 0, 0, 3);
        x.yard(3, 3, 3, 3, 1000, 0);
        return x;
    }

    /** Each call of an hour, asked so that the hour alone can be why it is refused. */
    private static void askHour(OneSunbeam x, int hour, long[] due) {
        Bounds.due("gets in hour " + hour, x.gets(hour, 0), due[0]);
        for (int what = 0; what < 6; what++) Bounds.due("light in hour " + hour, x.light(hour, what), due[1 + what]);
        Bounds.due("first blind in hour " + hour, x.light(hour, 6), due[7]);
        Bounds.due("passes in hour " + hour, x.passes(hour, 2, 2), due[8]);
        Bounds.due("sees in hour " + hour, x.sees(hour, 0), due[9]);
        Bounds.due("worth in hour " + hour, x.worth(hour, 0), due[10]);
        Bounds.due("owned in hour " + hour, x.owned(hour, 3), due[11]);
        Bounds.due("aim in hour " + hour, x.aim(hour, 0, 1, 0), due[12]);
        Bounds.due("fair in hour " + hour, x.fair(hour, 1, 0), due[13]);
        Bounds.due("mends in hour " + hour, x.mends(hour, 0, 0), due[14]);
        Bounds.due("second in hour " + hour, x.second(hour, 0), due[15]);
        Bounds.due("thief in hour " + hour, x.thief(hour, 0), due[16]);
        Bounds.due("dusty in hour " + hour, x.dusty(hour, 0, 0, 0), due[17]);
    }

    private static void darkHours() {
        Bounds.by("Of an hour, in MONTH (all NONE if it is dark)");
        long[] first = {100, 100, 0, 0, 3, 1, 0, -2, 100, 1, 100, 100, 2, 2, -2, 0, -2, 1000};
        long[] last = {200, 200, 0, 0, 3, 1, 0, -2, 200, 1, 200, 200, 2, 2, -2, 0, -2, 1000};
        long[] refused = {NONE, NONE, NONE, NONE, NONE, NONE, NONE, NONE, NONE, NONE, -1000000, -1000000, NONE, NONE, NONE, NONE, NONE, NONE};
        for (int month : new int[] {0, 11}) {
            OneSunbeam x = lastHoursLit();
            x.month(month);
            askHour(x, 0, first);
            askHour(x, 23, last);
            // The hours beside the lit ones, of this month and of those beside it.
            for (int hour : new int[] {1, 22, -1, 24, LEAST, MOST}) askHour(x, hour, refused);
        }
        OneSunbeam x = lastHoursLit();
        x.sun(5, 0, NONE, 0);
        x.month(5);
        askHour(x, 0, refused);
        askHour(x, 23, last);
    }

    private static void getsRefused() {
        Bounds.by("What a YARD gets in an hour; NONE without these");
        OneSunbeam x = row(0, 1000);
        for (int i = 0; i < 8; i++) x.yard(i, 1, i, 1, 100, 0);
        Bounds.due("the first yard", x.gets(0, 0), 100);
        Bounds.due("the last yard", x.gets(0, 7), 48);
        Bounds.due("a ninth", x.gets(0, 8), NONE);
        Bounds.refused("yard -1", NONE, town -> town.gets(0, -1));
        Bounds.refused("yard 2", NONE, town -> town.gets(0, 2));
        Bounds.refused("yard 8", NONE, town -> town.gets(0, 8));
        Bounds.refused("hour -1", NONE, town -> town.gets(-1, 0));
        Bounds.refused("hour 24", NONE, town -> town.gets(24, 0));
        Bounds.refused("a dark hour", NONE, town -> town.gets(1, 0));
        Bounds.refused("far", NONE, town -> town.gets(MOST, LEAST));
    }

    private static void lightRefused() {
        Bounds.by("Of an hour what 0: what all YARDS get .. 6: the first such CELL. NONE without these");
        OneSunbeam x = Bounds.busy();
        Bounds.due("what 0", x.light(0, 0) >= 0, true);
        Bounds.due("what 6", x.light(0, 6) != NONE, true);
        Bounds.refused("what -1", NONE, town -> town.light(0, -1));
        Bounds.refused("what 7", NONE, town -> town.light(0, 7));
        Bounds.refused("what is the least", NONE, town -> town.light(0, LEAST));
        Bounds.refused("hour -1", NONE, town -> town.light(-1, 0));
        Bounds.refused("hour 24", NONE, town -> town.light(24, 0));
        Bounds.refused("a dark hour", NONE, town -> town.light(1, 0));
        for (int what = 0; what < 7; what++) {
            int of = what;
            Bounds.refused("nothing is changed by what " + what, Bounds.busy().light(0, what), town -> town.light(0, of));
        }
    }

    private static void blind() {
        Bounds.by("BLIND: CELLS with EYES whose bound what passes is above");
        OneSunbeam x = row(0, 1000);
        Bounds.due("no eyes", x.light(0, 5), 0);
        x.eyes(3, 1, 1000);
        Bounds.due("as much as the bound", x.light(0, 5), 0);
        x.eyes(3, 1, 999);
        Bounds.due("one above it", x.light(0, 5), 1);
        x.eyes(5, 1, 0);
        Bounds.due("two", x.light(0, 5), 2);
        x.eyes(5, 2, 0);
        Bounds.due("nothing passes there: 0 is not above 0", x.light(0, 5), 2);
        x.eyes(5, 1, NONE);
        Bounds.due("eyes that are gone", x.light(0, 5), 1);
        x.sun(0, 0, 0, 1);
        x.eyes(5, 1, 0);
        Bounds.due("1 is above 0", x.light(0, 5), 1);
        OneSunbeam y = new OneSunbeam();
        y.town(24, 24, 0, 0, 0);
        y.sun(0, 0, 1, 10);
        y.eyes(0, 0, 9);
        Bounds.due("the first cell", y.light(0, 5), 1);
        y.eyes(23, 23, 9);
        Bounds.due("the last cell, too", y.light(0, 5), 2);
    }

    private static void firstBlind() {
        Bounds.by("6: the first such CELL, 24 * y + x (-2: none)");
        OneSunbeam x = new OneSunbeam();
        x.town(24, 24, 0, 0, 0);
        x.sun(0, 0, 1, 10);
        Bounds.due("none", x.light(0, 6), -2);
        x.eyes(23, 23, 9);
        Bounds.due("the last cell", x.light(0, 6), 24 * 23 + 23);
        x.eyes(11, 11, 10);
        Bounds.due("not above", x.light(0, 6), 24 * 23 + 23);
        x.eyes(11, 11, 9);
        Bounds.due("rows from above", x.light(0, 6), 24 * 11 + 11);
        x.eyes(0, 0, 9);
        Bounds.due("the first cell", x.light(0, 6), 0);
        OneSunbeam y = row(0, 10);
        y.eyes(5, 1, 0);
        y.eyes(4, 1, 0);
        Bounds.due("each from the left", y.light(0, 6), 24 + 4);
    }

    private static void beams() {
        Bounds.by("4: BEAMS (the first, too)");
        OneSunbeam x = row(0, 1000);
        Bounds.due("the first", x.light(0, 4), 1);
        x.mirror(2, 1, 0, 0, 500, 0, 0);
        Bounds.due("two", x.light(0, 4), 2);
        x.mirror(4, 1, 0, 0, 500, 0, 0);
        Bounds.due("each lets one through", x.light(0, 4), 4);
    }

    private static void passesRefused() {
        Bounds.by("What passes a CELL in an hour; NONE without these");
        OneSunbeam x = new OneSunbeam();
        x.town(5, 7, 0, 0, 0);
        x.sun(0, 0, 0, 10);
        Bounds.due("the first cell", x.passes(0, 0, 0), 10);
        Bounds.due("the last of the row", x.passes(0, 4, 0), 10);
        Bounds.due("the last cell", x.passes(0, 4, 6), 0);
        Bounds.refused("left of it", NONE, town -> town.passes(0, -1, 0));
        Bounds.refused("right of it", NONE, town -> town.passes(0, 5, 0));
        Bounds.refused("above it", NONE, town -> town.passes(0, 0, -1));
        Bounds.refused("below it", NONE, town -> town.passes(0, 0, 5));
        Bounds.refused("hour -1", NONE, town -> town.passes(-1, 0, 0));
        Bounds.refused("hour 24", NONE, town -> town.passes(24, 0, 0));
        Bounds.refused("a dark hour", NONE, town -> town.passes(1, 0, 0));
        Bounds.refused("far", NONE, town -> town.passes(LEAST, MOST, MOST));
    }
}
