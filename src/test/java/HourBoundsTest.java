/** The boundary cases of what is asked of an hour: Terms III and promises 21 to 29. */
public final class HourBoundsTest {
    private static final int NONE = OneSunbeam.NONE;
    private static final int LEAST = Integer.MIN_VALUE;
    private static final int MOST = Integer.MAX_VALUE;

    public static void main(String[] arguments) {
        sees();
        seesRefused();
        worth();
        worthRefused();
        owned();
        ownedRefused();
        aimSet();
        aimPlace();
        aimMost();
        aimFirst();
        aimRefused();
        fairWants();
        fairOfAll();
        fairFirst();
        fairRefused();
        mendsHalf();
        mendsByFewest();
        mendsByThree();
        mendsFirst();
        mendsFirstPair();
        mendsNoneBroken();
        mendsRefused();
        secondEdge();
        secondWays();
        secondFirst();
        secondNone();
        secondByTrying();
        secondRefused();
        thiefReading();
        thiefAlongTheFirstBeam();
        thiefFirstTimeAlone();
        thiefExplains();
        thiefRefused();
        dusty();
        dustyByTrying();
        dustyNone();
        dustyRefused();
        Bounds.end();
    }

    /** A mirror in the gap, in the middle of a town of 5 by 5, and a yard on each side, numbered as the ways. */
    private static OneSunbeam star(int slant) {
        OneSunbeam x = new OneSunbeam();
        x.town(5, 5, 2, 2, 0);
        x.sun(0, 0, 0, 1000);
        x.mirror(2, 2, slant, 0, 0, 0, 0);
        for (int way = 0; way < 8; way++) {
            x.yard(2 + Bounds.DX[way], 2 + Bounds.DY[way], 2 + Bounds.DX[way], 2 + Bounds.DY[way], 100 + way, 0);
        }
        return x;
    }

    private static void sees() {
        Bounds.by("SEES: YARDS (as bits) that would get more or less if a MIRROR's slant were one more (7: 0)");
        for (int slant = 0; slant < 8; slant++) {
            OneSunbeam x = star(slant);
            Bounds.due("slant " + slant, x.sees(0, 0), 1 << slant | 1 << (slant + 1) % 8);
            Bounds.due("the slant stays", x.mirrors(0, 2), slant);
        }
        OneSunbeam x = star(3);
        x.sets(0, 2, 1);
        Bounds.due("a broken one", x.sees(0, 0), 0);
        x.sets(0, 2, 0);
        x.sets(0, 1, 1000);
        Bounds.due("one that loses all", x.sees(0, 0), 0);
        x.sets(0, 1, 0);
        x.sun(0, 0, 0, 1);
        Bounds.due("too little for a yard", x.sees(0, 0), 0);
    }

    private static void seesRefused() {
        Bounds.by("SEES; NONE without these");
        Bounds.due("the last mirror", Bounds.fullOfMirrors().sees(0, 23), 0);
        Bounds.due("a 25th", Bounds.fullOfMirrors().sees(0, 24), NONE);
        Bounds.refused("mirror -1", NONE, x -> x.sees(0, -1));
        Bounds.refused("mirror 3 of 3", NONE, x -> x.sees(0, 3));
        Bounds.refused("hour -1", NONE, x -> x.sees(-1, 0));
        Bounds.refused("hour 24", NONE, x -> x.sees(24, 0));
        Bounds.refused("a dark hour", NONE, x -> x.sees(1, 0));
        Bounds.refused("far", NONE, x -> x.sees(MOST, LEAST));
        Bounds.refused("nothing happens", Bounds.busy().sees(0, 0), x -> x.sees(0, 0));
    }

    private static OneSunbeam owners() {
        OneSunbeam x = Bounds.plain();
        x.mirror(3, 1, 2, 0, 250, 0, 0);
        x.mirror(6, 1, 2, 0, 0, 0, 9);
        x.mirror(0, 0, 2, 0, 0, 0, 9);
        x.mirror(3, 5, 2, 0, 0, 0, 0);
        x.yard(3, 4, 3, 4, 1000, 0);
        x.yard(6, 4, 6, 4, 500, 0);
        x.yard(7, 1, 7, 1, 1000, 0);
        return x;
    }

    private static void worth() {
        Bounds.by("WORTH of a MIRROR: what all YARDS get, less what they would get if it were broken");
        OneSunbeam x = owners();
        // Now 750 and 125. Without 0: 500. Without 1: 750 and 250.
        Bounds.due("above 0", x.worth(0, 0), 375);
        Bounds.due("below 0", x.worth(0, 1), -125);
        Bounds.due("no light comes to it", x.worth(0, 2), 0);
        x.sets(0, 2, 1);
        Bounds.due("broken already", x.worth(0, 0), 0);
        Bounds.due("it stays broken", x.mirrors(0, 8), 1);
        OneSunbeam y = new OneSunbeam();
        y.town(4, 4, 0, 1, 0);
        y.sun(0, 0, 0, 99999);
        y.mirror(2, 1, 2, 0, 0, 0, 0);
        y.yard(2, 3, 2, 3, 1000, 0);
        Bounds.due("the most", y.worth(0, 0), 99999);
        y.sets(0, 0, 3);
        y.yard(3, 1, 3, 1, 1000, 0);
        Bounds.due("the least", y.worth(0, 0), -99999);
    }

    private static void worthRefused() {
        Bounds.by("WORTH of a MIRROR; -1000000 without these");
        Bounds.due("the last mirror", Bounds.fullOfMirrors().worth(0, 23), 0);
        Bounds.due("a 25th", Bounds.fullOfMirrors().worth(0, 24), -1000000);
        Bounds.refused("mirror -1", -1000000, x -> x.worth(0, -1));
        Bounds.refused("mirror 3 of 3", -1000000, x -> x.worth(0, 3));
        Bounds.refused("hour -1", -1000000, x -> x.worth(-1, 0));
        Bounds.refused("hour 24", -1000000, x -> x.worth(24, 0));
        Bounds.refused("a dark hour", -1000000, x -> x.worth(1, 0));
        Bounds.refused("far", -1000000, x -> x.worth(MOST, LEAST));
        for (int mirror = 0; mirror < 3; mirror++) {
            int of = mirror;
            Bounds.refused("nothing happens", Bounds.busy().worth(0, mirror), x -> x.worth(0, of));
        }
        Bounds.refused(Bounds.FULL, "nothing happens to the first of 24", 0, x -> x.worth(0, 0));
        Bounds.refused(Bounds.FULL, "nothing happens to the last of 24", 0, x -> x.worth(0, 23));
    }

    private static void owned() {
        Bounds.by("WORTH of an owner: if all of theirs were");
        OneSunbeam x = owners();
        Bounds.due("owner 0 has two", x.owned(0, 0), 375);
        Bounds.due("owner 9 has two", x.owned(0, 9), -125);
        Bounds.due("owner 1 has none", x.owned(0, 1), 0);
        Bounds.due("owner 8 has none", x.owned(0, 8), 0);
        OneSunbeam y = Bounds.plain();
        y.mirror(2, 1, 2, 0, 500, 0, 5);
        y.mirror(4, 1, 2, 0, 0, 0, 5);
        y.mirror(6, 1, 2, 0, 0, 0, 4);
        y.yard(2, 4, 6, 4, 1000, 0);
        Bounds.due("one alone", y.worth(0, 0), 0);
        Bounds.due("the other alone", y.worth(0, 1), 0);
        Bounds.due("both, but a third one is behind them", y.owned(0, 5), 0);
        y.sets(2, 2, 1);
        Bounds.due("one alone", y.worth(0, 0), 0);
        Bounds.due("the other alone", y.worth(0, 1), 500);
        Bounds.due("both", y.owned(0, 5), 1000);
        Bounds.due("whose is broken", y.owned(0, 4), 0);
        Bounds.due("it stays broken", y.mirrors(2, 8), 1);
        Bounds.due("these stay whole", y.mirrors(0, 8) + y.mirrors(1, 8), 0);
    }

    private static void ownedRefused() {
        Bounds.by("WORTH of an owner; -1000000 without these");
        Bounds.refused("owner -1", -1000000, x -> x.owned(0, -1));
        Bounds.refused("owner 10", -1000000, x -> x.owned(0, 10));
        Bounds.refused("hour -1", -1000000, x -> x.owned(-1, 0));
        Bounds.refused("hour 24", -1000000, x -> x.owned(24, 0));
        Bounds.refused("a dark hour", -1000000, x -> x.owned(1, 0));
        Bounds.refused("far", -1000000, x -> x.owned(LEAST, MOST));
        Bounds.refused("nothing happens", Bounds.busy().owned(0, 4), x -> x.owned(0, 4));
        Bounds.refused(Bounds.FULL, "nothing happens to all of 24", 0, x -> x.owned(0, 0));
        Bounds.refused(Bounds.FULL, "nothing happens to none of 24", 0, x -> x.owned(0, 1));
    }

    /** Light goes straight down row 1 of 24 mirrors' town to a yard, or not; mirror 23 stands in the row. */
    private static OneSunbeam lastMirrorTurns() {
        OneSunbeam x = Bounds.plain();
        for (int i = 0; i < 23; i++) x.mirror(i % 8, 3 + i / 8, 1 + i % 7, 0, 0, 0, 0);
        x.mirror(7, 1, 6, 0, 0, 0, 0);
        x.yard(7, 2, 7, 2, 300, 1);
        return x;
    }

    private static void aimSet() {
        Bounds.by("AIM for a YARD and 1 to 4 MIRRORS (a set)");
        OneSunbeam x = lastMirrorTurns();
        int last = 1 << 23;
        Bounds.due("one", x.aim(0, 0, last, -1), 300);
        Bounds.due("its slant", x.aim(0, 0, last, 0), 2);
        Bounds.due("two", x.aim(0, 0, last | 1, 1), 2);
        Bounds.due("three", x.aim(0, 0, last | 6, 2), 2);
        Bounds.due("four", x.aim(0, 0, last | 7, 3), 2);
        Bounds.due("four of fair", x.fair(0, last | 7, 3), 2);
        Bounds.due("none", x.aim(0, 0, 0, -1), NONE);
        Bounds.due("five", x.aim(0, 0, last | 15, -1), NONE);
        Bounds.due("all", x.aim(0, 0, (1 << 24) - 1, -1), NONE);
        Bounds.due("mirror 24", x.aim(0, 0, 1 << 24, -1), NONE);
        Bounds.due("mirror 24, too", x.aim(0, 0, 1 << 24 | 1, -1), NONE);
        Bounds.due("mirror 31", x.aim(0, 0, LEAST, -1), NONE);
        Bounds.due("mirror 31, too", x.aim(0, 0, LEAST | 1, -1), NONE);
        Bounds.due("all bits", x.aim(0, 0, -1, -1), NONE);
        Bounds.refused("mirror 3 of 3", NONE, town -> town.aim(0, 0, 8, -1));
        Bounds.refused("mirror 3 of 3, too", NONE, town -> town.aim(0, 0, 9, -1));
        Bounds.refused("none", NONE, town -> town.aim(0, 0, 0, -1));
        Bounds.refused(HourBoundsTest::lastMirrorTurns, "five", NONE, town -> town.aim(0, 0, 31, -1));
    }

    private static void aimPlace() {
        Bounds.by("AIM k -1: what the YARD gets so, 0 and above: the slant of the MIRROR at that place of the set");
        OneSunbeam x = Bounds.plain();
        x.mirror(0, 5, 3, 0, 0, 0, 0);
        x.mirror(5, 3, 3, 0, 0, 0, 0);
        x.mirror(1, 5, 3, 0, 0, 0, 0);
        x.mirror(5, 1, 3, 0, 0, 0, 0);
        x.yard(6, 3, 6, 3, 700, 0);
        // Mirror 3 turns down (2), mirror 1 by way 2 to the right (2).
        Bounds.due("place 0 is the lesser", x.aim(0, 0, 0b1010, 0), 2);
        Bounds.due("place 1", x.aim(0, 0, 0b1010, 1), 2);
        Bounds.due("no place 2", x.aim(0, 0, 0b1010, 2), NONE);
        Bounds.due("no place -2", x.aim(0, 0, 0b1010, -2), NONE);
        Bounds.due("far", x.aim(0, 0, 0b1010, MOST), NONE);
        Bounds.due("far", x.aim(0, 0, 0b1010, LEAST), NONE);
        Bounds.due("what it gets", x.aim(0, 0, 0b1010, -1), 700);
        int[] slants = {0, 2, 0, 2};
        for (int k = 0; k < 4; k++) Bounds.due("place " + k + " of four", x.aim(0, 0, 0b1111, k), slants[k]);
        Bounds.due("no place 4", x.aim(0, 0, 0b1111, 4), NONE);
        Bounds.due("of one, place 0", x.aim(0, 0, 0b1000, 0), 0);
        Bounds.due("of one, no place 1", x.aim(0, 0, 0b1000, 1), NONE);
    }

    private static void aimMost() {
        Bounds.by("of all their slants those with which it gets most");
        for (int yard = 0; yard < 8; yard++) {
            OneSunbeam x = star(5);
            Bounds.due("most of yard " + yard, x.aim(0, yard, 1, -1), 100 + yard);
            Bounds.due("its slant", x.aim(0, yard, 1, 0), yard);
            Bounds.due("the slant stays", x.mirrors(0, 2), 5);
        }
        OneSunbeam x = star(5);
        x.sets(0, 2, 1);
        Bounds.due("a broken one changes nothing", x.aim(0, 3, 1, -1), 0);
        Bounds.due("a broken one: the light goes straight on", x.aim(0, 0, 1, -1), 100);
        Bounds.due("the first slant", x.aim(0, 0, 1, 0), 0);
    }

    private static void aimFirst() {
        Bounds.by("of several the first (the lesser MIRROR's slant least first)");
        OneSunbeam x = Bounds.plain();
        x.mirror(4, 1, 7, 0, 0, 0, 0);
        x.mirror(4, 4, 7, 0, 0, 0, 0);
        x.mirror(6, 1, 7, 0, 0, 0, 0);
        x.yard(6, 4, 6, 4, 400, 0);
        // Straight on (slant 0) and down by mirror 2 (2), or down (2) and to the right by mirror 1 (2).
        Bounds.due("all three", x.aim(0, 0, 7, -1), 400);
        Bounds.due("the lesser one's slant least", x.aim(0, 0, 7, 0), 0);
        Bounds.due("it does not hang on this one", x.aim(0, 0, 7, 1), 0);
        Bounds.due("this one", x.aim(0, 0, 7, 2), 2);
        Bounds.due("0 and 1", x.aim(0, 0, 3, 0), 2);
        Bounds.due("0 and 1", x.aim(0, 0, 3, 1), 2);
        Bounds.due("nothing is ever got", x.aim(0, 0, 2, -1), 0);
        aimLast();
        Bounds.due("the first slant then", x.aim(0, 0, 2, 0), 0);
    }

    /** Four mirrors to each of which light comes, whichever slants they have: 4096 tries, of which the last is the best. */
    private static void aimLast() {
        OneSunbeam x = new OneSunbeam();
        x.town(24, 4, 0, 1, 0);
        x.sun(0, 0, 0, 99999);
        x.yard(0, 0, 23, 0, 1000, 0);
        for (int i = 0; i < 4; i++) {
            x.mirror(1 + 3 * i, 1, 1, 0, 500, 0, 0);
            x.rock(3 * i, 0, 3 * i + 1, 0, true);
        }
        // Between them others that let half through and send the rest away: no light goes to and fro for ever.
        for (int i = 1; i < 4; i++) x.mirror(3 * i, 1, 2, 0, 500, 0, 0);
        // By slant 7 half of what comes goes right and up, into the yard; left and up and straight up is rock.
        Bounds.due("half of 99999, 24999, 6249 and 1562", x.aim(0, 0, 15, -1), 50000 + 12500 + 3125 + 781);
        for (int k = 0; k < 4; k++) Bounds.due("the last slant of place " + k, x.aim(0, 0, 15, k), 7);
        for (int k = 0; k < 4; k++) Bounds.due("the fairest, place " + k, x.fair(0, 15, k), 7);
        for (int i = 0; i < 4; i++) Bounds.due("the slant stays", x.mirrors(i, 2), 1);
    }

    private static void aimRefused() {
        Bounds.by("AIM; NONE without these");
        Bounds.refused("yard -1", NONE, x -> x.aim(0, -1, 1, -1));
        Bounds.refused("yard 2 of 2", NONE, x -> x.aim(0, 2, 1, -1));
        Bounds.refused("yard 8", NONE, x -> x.aim(0, 8, 1, -1));
        Bounds.refused("place 1 of 1", NONE, x -> x.aim(0, 0, 1, 1));
        Bounds.refused("place -2", NONE, x -> x.aim(0, 0, 1, -2));
        Bounds.refused("hour -1", NONE, x -> x.aim(-1, 0, 1, -1));
        Bounds.refused("hour 24", NONE, x -> x.aim(24, 0, 1, -1));
        Bounds.refused("a dark hour", NONE, x -> x.aim(1, 0, 1, -1));
        Bounds.refused("nothing happens", Bounds.busy().aim(0, 0, 7, -1), x -> x.aim(0, 0, 7, -1));
    }

    /** Two yards, one behind the mirror and one below it, and a third that gets nothing, with these wants. */
    private static OneSunbeam wanting(int straight, int below, int none) {
        OneSunbeam x = Bounds.plain();
        x.mirror(3, 1, 7, 0, 400, 0, 0);
        x.yard(5, 1, 5, 1, 1000, straight);
        x.yard(3, 3, 3, 3, 1000, below);
        x.yard(0, 5, 0, 5, 1000, none);
        return x;
    }

    private static void fairIs(OneSunbeam x, int most, int slant) {
        Bounds.due("most", x.fair(0, 1, -1), most);
        Bounds.due("slant", x.fair(0, 1, 0), slant);
        Bounds.due("the slant stays", x.mirrors(0, 2), 7);
    }

    private static void fairWants() {
        Bounds.by("FAIR: those with which that YARD with a want above 0 that gets least gets most");
        fairIs(wanting(1, 1, 0), 400, 2);
        fairIs(wanting(1, 0, 0), 1000, 0);
        fairIs(wanting(0, 1, 0), 600, 2);
        fairIs(wanting(0, 0, 1), 0, 0);
        fairIs(wanting(9999999, 1, 0), 400, 2);
        fairIs(wanting(1, 1, 1), 0, 0);
    }

    private static void fairOfAll() {
        Bounds.by("(of all YARDS, if none has such a want)");
        fairIs(wanting(0, 0, 0), 0, 0);
        OneSunbeam x = Bounds.plain();
        x.mirror(3, 1, 7, 0, 400, 0, 0);
        x.yard(5, 1, 5, 1, 1000, 0);
        x.yard(3, 3, 3, 3, 1000, 0);
        fairIs(x, 400, 2);
        x.yard(4, 0, 4, 0, 1000, 1);
        fairIs(x, 600, 7);
    }

    private static void fairFirst() {
        Bounds.by("FAIR: of several the first (the lesser MIRROR's slant least first)");
        OneSunbeam x = Bounds.plain();
        x.mirror(4, 1, 7, 0, 0, 0, 0);
        x.mirror(4, 4, 7, 0, 0, 0, 0);
        x.mirror(6, 1, 7, 0, 0, 0, 0);
        x.yard(6, 4, 6, 4, 400, 5);
        Bounds.due("most", x.fair(0, 7, -1), 400);
        int[] slants = {0, 0, 2};
        for (int k = 0; k < 3; k++) Bounds.due("place " + k, x.fair(0, 7, k), slants[k]);
    }

    private static void fairRefused() {
        Bounds.by("FAIR, as AIM; NONE without these (no YARDS, too)");
        OneSunbeam x = Bounds.plain();
        x.mirror(3, 1, 2, 0, 0, 0, 0);
        Bounds.due("no yards", x.fair(0, 1, -1), NONE);
        Bounds.due("no yards", x.fair(0, 1, 0), NONE);
        x.yard(3, 3, 3, 3, 1000, 0);
        Bounds.due("a yard", x.fair(0, 1, -1), 1000);
        Bounds.refused("no set", NONE, town -> town.fair(0, 0, -1));
        Bounds.refused("mirror 3 of 3", NONE, town -> town.fair(0, 8, -1));
        Bounds.refused("mirror 31", NONE, town -> town.fair(0, LEAST, -1));
        Bounds.refused(HourBoundsTest::lastMirrorTurns, "five", NONE, town -> town.fair(0, 31, -1));
        Bounds.refused("place 1 of 1", NONE, town -> town.fair(0, 1, 1));
        Bounds.refused("place -2", NONE, town -> town.fair(0, 1, -2));
        Bounds.refused("hour -1", NONE, town -> town.fair(-1, 1, -1));
        Bounds.refused("hour 24", NONE, town -> town.fair(24, 1, -1));
        Bounds.refused("a dark hour", NONE, town -> town.fair(1, 1, -1));
        Bounds.refused("nothing happens", Bounds.busy().fair(0, 7, 2), town -> town.fair(0, 7, 2));
    }

    private static void mendsIs(OneSunbeam x, int mirror, int... want) {
        for (int what = 0; what < 5; what++) Bounds.due("mends what " + what, x.mends(0, mirror, what), want[what]);
    }

    /** A yard gets so much by mirror 0 and, if it breaks, so much less by the straight way, in which mirror 1 is dusty. */
    private static OneSunbeam breaking(int strength, int dust) {
        OneSunbeam x = new OneSunbeam();
        x.town(8, 6, 0, 1, 0);
        x.sun(0, 0, 0, strength);
        x.mirror(3, 1, 2, 0, 0, 0, 0);
        x.mirror(5, 1, 0, 0, 0, 0, 0);
        x.mirror(3, 3, 2, 0, 0, 0, 0);
        x.yard(6, 1, 6, 3, 1000, 0);
        x.sets(1, 1, dust);
        return x;
    }

    private static void mendsHalf() {
        Bounds.by("so that each YARD gets half, downwards, of what it gets now, or more");
        mendsIs(breaking(9, 0), 0, 0, -2, -2, -2, -2);
        // 9 now, half is 4: with 4 it is enough, with 3 it is not.
        mendsIs(breaking(9, 556), 0, 0, -2, -2, -2, -2);
        mendsIs(breaking(9, 667), 0, -2, -2, -2, -2, -2);
        mendsIs(breaking(8, 500), 0, 0, -2, -2, -2, -2);
        mendsIs(breaking(8, 625), 0, -2, -2, -2, -2, -2);
        // 1 now, half is 0.
        mendsIs(breaking(1, 1000), 0, 0, -2, -2, -2, -2);
        mendsIs(breaking(2, 1000), 0, -2, -2, -2, -2, -2);
        OneSunbeam x = breaking(9, 0);
        x.yard(3, 2, 3, 2, 300, 0);
        Bounds.due("each yard: the other gets 2 now, and nothing then", x.mends(0, 0, 0), -2);
    }

    private static void mendsByFewest() {
        Bounds.by("MENDS a MIRROR that breaks: the fewest others (0 to 2)");
        OneSunbeam x = Bounds.plain();
        x.mirror(2, 1, 2, 0, 0, 0, 0);
        x.mirror(5, 1, 7, 0, 0, 0, 0);
        x.mirror(5, 4, 7, 0, 0, 0, 0);
        x.yard(2, 4, 2, 4, 1000, 0);
        x.rock(3, 3, 3, 3, true);
        // Without mirror 0: mirror 1 down (2), mirror 2 by way 2 to the left (6).
        mendsIs(x, 0, 2, 1, 2, 2, 6);
        x.sets(2, 0, 6);
        mendsIs(x, 0, 1, 1, 2, -2, -2);
        x.sets(1, 0, 2);
        mendsIs(x, 0, 0, -2, -2, -2, -2);
        Bounds.due("the slants stay", 10 * x.mirrors(1, 2) + x.mirrors(2, 2), 26);
        Bounds.due("it is whole", x.mirrors(0, 8), 0);
    }

    private static void mendsByThree() {
        Bounds.by("MENDS: -2: it can't be");
        OneSunbeam x = new OneSunbeam();
        x.town(8, 8, 0, 1, 0);
        x.sun(0, 0, 0, 1000);
        x.mirror(2, 1, 2, 0, 0, 0, 0);
        x.mirror(6, 1, 1, 0, 0, 0, 0);
        x.mirror(6, 6, 1, 0, 0, 0, 0);
        x.mirror(3, 6, 1, 0, 0, 0, 0);
        x.yard(2, 3, 2, 3, 1000, 0);
        x.rock(3, 2, 5, 5, true);
        x.rock(2, 4, 2, 7, true);
        // Without mirror 0 three must turn: down, to the left, and by way 4 to the left and up; the rock is around all else.
        x.rock(2, 4, 2, 4, false);
        mendsIs(x, 0, -2, -2, -2, -2, -2);
    }

    private static void mendsFirst() {
        Bounds.by("the first such (the lesser MIRROR first, .. then slants)");
        OneSunbeam x = Bounds.plain();
        x.mirror(4, 1, 2, 0, 0, 0, 0);
        x.mirror(5, 1, 4, 0, 0, 0, 0);
        x.mirror(2, 1, 0, 0, 0, 0, 0);
        x.yard(0, 3, 7, 3, 1000, 0);
        // Mirror 0 breaks. Mirror 1 can turn the light down by 1, 2 or 3; mirror 2, ahead of it, can, too.
        mendsIs(x, 0, 1, 1, 1, -2, -2);
        x.sets(1, 0, 1);
        mendsIs(x, 0, 0, -2, -2, -2, -2);
        x.sets(1, 0, 0);
        mendsIs(x, 0, 1, 1, 1, -2, -2);
        x.rock(6, 2, 6, 2, true);
        mendsIs(x, 0, 1, 1, 2, -2, -2);
        x.rock(5, 2, 5, 2, true);
        mendsIs(x, 0, 1, 1, 3, -2, -2);
        x.rock(3, 3, 3, 3, true);
        mendsIs(x, 0, 1, 2, 1, -2, -2);
        x.rock(3, 2, 3, 2, true);
        mendsIs(x, 0, 1, 2, 2, -2, -2);
        x.rock(2, 2, 2, 2, true);
        mendsIs(x, 0, 1, 2, 3, -2, -2);
        x.rock(1, 2, 1, 2, true);
        mendsIs(x, 0, -2, -2, -2, -2, -2);
    }

    private static void mendsFirstPair() {
        Bounds.by("the first such (the lesser MIRROR first, then the other one, then slants), as said");
        int[] found = new int[4];
        for (int seed = 0; seed < 48; seed++) {
            int[] want = mendsByTrying(seed);
            found[want[0] < 0 ? 3 : want[0]]++;
            mendsIs(strewn(seed), BREAKS, want);
        }
        for (int many = 1; many < 4; many++) Bounds.due("there are towns of kind " + many, found[many] >= 3, true);
    }

    private static final int BREAKS = 2;

    /** Mirrors that a seed turns; light comes to mirror 2, which sends it to a yard. */
    private static OneSunbeam strewn(int seed) {
        OneSunbeam x = new OneSunbeam();
        x.town(7, 7, 0, 3, 0);
        x.sun(0, 0, 0, 1000);
        x.mirror(6, 5, seed % 2 == 0 ? 6 : 5, 0, 0, 0, 0);
        x.mirror(4, 5, seed / 2 % 3 * 3, 0, 0, 0, 0);
        x.mirror(2, 3, 2, 0, 0, 0, 0);
        x.mirror(4, 3, seed / 6 % 2 == 0 ? 7 : 2, 0, 100, 0, 0);
        x.mirror(6, 3, seed / 12 % 2 == 0 ? 2 : 7, 0, 0, 0, 0);
        x.yard(2, 5, 2, 6, 1000, 0);
        x.yard(0, 3, 0, 3, 10, 0);
        x.rock(3, 4, 3, 4, true);
        if (seed >= 24) x.rock(4, 4, 4, 4, true);
        return x;
    }

    /** Each try on a new object, by calls that do no more than turn mirrors and ask what yards get. */
    private static int[] mendsByTrying(int seed) {
        OneSunbeam now = strewn(seed);
        int[] needed = {now.gets(0, 0) / 2, now.gets(0, 1) / 2};
        int[] slants = new int[5];
        for (int mirror = 0; mirror < 5; mirror++) slants[mirror] = now.mirrors(mirror, 2);
        if (isMended(seed, needed)) return new int[] {0, -2, -2, -2, -2};
        for (int mirror = 0; mirror < 5; mirror++) {
            for (int slant = 0; slant < 8; slant++) {
                if (mirror != BREAKS && slant != slants[mirror] && isMended(seed, needed, mirror, slant)) {
                    return new int[] {1, mirror, slant, -2, -2};
                }
            }
        }
        for (int pair = 0; pair < 25 * 64; pair++) {
            int one = pair / 64 / 5, other = pair / 64 % 5, oneSlant = pair / 8 % 8, otherSlant = pair % 8;
            boolean isPair = one != BREAKS && other != BREAKS && other > one && oneSlant != slants[one] && otherSlant != slants[other];
            if (isPair && isMended(seed, needed, one, oneSlant, other, otherSlant)) {
                return new int[] {2, one, oneSlant, other, otherSlant};
            }
        }
        return new int[] {-2, -2, -2, -2, -2};
    }

    private static boolean isMended(int seed, int[] needed, int... turned) {
        OneSunbeam x = strewn(seed);
        x.sets(BREAKS, 2, 1);
        for (int i = 0; i < turned.length; i += 2) x.sets(turned[i], 0, turned[i + 1]);
        return x.gets(0, 0) >= needed[0] && x.gets(0, 1) >= needed[1];
    }

    private static void mendsNoneBroken() {
        Bounds.by("none of them broken, that must be turned to slants they have not now");
        OneSunbeam x = Bounds.plain();
        x.mirror(2, 1, 2, 0, 0, 0, 0);
        x.mirror(4, 1, 0, 0, 0, 0, 0);
        x.mirror(6, 1, 0, 0, 0, 0, 0);
        x.yard(2, 4, 6, 4, 1000, 0);
        mendsIs(x, 0, 1, 1, 2, -2, -2);
        x.sets(1, 2, 1);
        mendsIs(x, 0, 1, 2, 2, -2, -2);
        Bounds.due("it stays broken", x.mirrors(1, 8), 1);
        x.sets(2, 2, 1);
        mendsIs(x, 0, -2, -2, -2, -2, -2);
        x.sets(0, 2, 1);
        mendsIs(x, 0, 0, -2, -2, -2, -2);
        Bounds.due("it stays broken", x.mirrors(0, 8), 1);
        x.sets(1, 2, 0);
        mendsIs(x, 1, 0, -2, -2, -2, -2);
        Bounds.due("it stays whole", x.mirrors(1, 8), 0);
    }

    private static void mendsRefused() {
        Bounds.by("MENDS what 0: how many, 1, 3: MIRRORS that are turned, 2, 4: their slants; NONE without these");
        Bounds.due("the last mirror", Bounds.fullOfMirrors().mends(0, 23, 0), 0);
        Bounds.due("a 25th", Bounds.fullOfMirrors().mends(0, 24, 0), NONE);
        Bounds.refused("what -1", NONE, x -> x.mends(0, 0, -1));
        Bounds.refused("what 5", NONE, x -> x.mends(0, 0, 5));
        Bounds.refused("mirror -1", NONE, x -> x.mends(0, -1, 0));
        Bounds.refused("mirror 3 of 3", NONE, x -> x.mends(0, 3, 0));
        Bounds.refused("hour -1", NONE, x -> x.mends(-1, 0, 0));
        Bounds.refused("hour 24", NONE, x -> x.mends(24, 0, 0));
        Bounds.refused("a dark hour", NONE, x -> x.mends(1, 0, 0));
        Bounds.refused("far", NONE, x -> x.mends(MOST, LEAST, MOST));
        for (int mirror = 0; mirror < 3; mirror++) {
            int of = mirror;
            Bounds.refused("nothing happens", Bounds.busy().mends(0, mirror, 0), x -> x.mends(0, of, 0));
        }
        Bounds.refused(Bounds.FULL, "nothing happens to 24", 0, x -> x.mends(0, 23, 0));
        Bounds.refused(() -> strewn(2), "nothing happens", strewn(2).mends(0, BREAKS, 4), x -> x.mends(0, BREAKS, 4));
    }

    private static void secondIs(OneSunbeam x, int cell, int way, int most) {
        Bounds.due("second: cell", x.second(0, 0), cell);
        Bounds.due("second: way", x.second(0, 1), way);
        Bounds.due("second: all get", x.second(0, 2), most);
    }

    /** A town of 6 by 5 with the gap at (2, 2) and a yard of one cell there, which takes all. */
    private static OneSunbeam yardAt(int column, int row) {
        OneSunbeam x = new OneSunbeam();
        x.town(6, 5, 2, 2, 0);
        x.sun(0, 0, 0, 100);
        x.yard(column, row, column, row, 1000, 0);
        return x;
    }

    private static void secondEdge() {
        Bounds.by("SECOND: of all CELLS at the edge of the TOWN that are no rock, but the gap");
        OneSunbeam x = yardAt(5, 4);
        x.rock(0, 0, 5, 4, true);
        x.rock(5, 4, 5, 4, false);
        secondIs(x, 24 * 4 + 5, 4, 100);
        OneSunbeam y = yardAt(3, 3);
        y.rock(0, 0, 5, 4, true);
        y.rock(1, 1, 4, 3, false);
        secondIs(y, -2, -2, -2);
        y.rock(5, 1, 5, 1, false);
        secondIs(y, 24 + 5, 3, 100);
        // The gap at the edge, from which alone the yard can be reached.
        OneSunbeam z = new OneSunbeam();
        z.town(6, 5, 0, 2, 0);
        z.sun(0, 0, 0, 100);
        z.yard(0, 2, 0, 2, 1000, 0);
        z.rock(0, 1, 1, 1, true);
        z.rock(1, 2, 1, 3, true);
        z.rock(0, 3, 0, 3, true);
        secondIs(z, 0, 0, 0);
        Bounds.due("the gap stays", z.light(0, 0), 100);
        Bounds.due("the sun stays", z.light(0, 3), 1);
    }

    private static void secondWays() {
        Bounds.by("all WAYS that go into the TOWN from there (the next CELL by it lies in the TOWN)");
        int[][] first = {{0, 0, 0}, {5, 0, 2}, {0, 4, 0}, {5, 4, 4}, {3, 0, 0}, {0, 2, 0}, {5, 2, 2}, {3, 4, 0}};
        for (int[] of : first) {
            OneSunbeam x = yardAt(of[0], of[1]);
            x.rock(0, 0, 5, 4, true);
            x.rock(of[0], of[1], of[0], of[1], false);
            secondIs(x, 24 * of[1] + of[0], of[2], 100);
        }
        // Each way from (3, 0) into the town, alone open: the yard is the next cell.
        for (int way : new int[] {0, 1, 2, 3, 4}) {
            OneSunbeam x = yardAt(3 + Bounds.DX[way], Bounds.DY[way]);
            x.rock(0, 0, 5, 4, true);
            x.rock(3, 0, 3, 0, false);
            x.rock(3 + Bounds.DX[way], Bounds.DY[way], 3 + Bounds.DX[way], Bounds.DY[way], false);
            boolean isAhead = way == 4;
            secondIs(x, isAhead ? 2 : 3, isAhead ? 0 : way, 100);
        }
    }

    private static void secondFirst() {
        Bounds.by("gives all YARDS together most; of several the first (rows from above, each from the left, then WAYS)");
        OneSunbeam x = yardAt(2, 2);
        secondIs(x, 0, 1, 100);
        x.rock(0, 0, 0, 0, true);
        secondIs(x, 2, 2, 100);
        x.rock(2, 0, 2, 0, true);
        secondIs(x, 4, 3, 100);
        x.rock(4, 0, 4, 0, true);
        secondIs(x, 24 * 2, 0, 100);
        x.rock(0, 2, 0, 2, true);
        secondIs(x, 24 * 2 + 5, 4, 100);
        OneSunbeam y = new OneSunbeam();
        y.town(6, 5, 2, 2, 0);
        y.sun(0, 0, 0, 100);
        y.yard(2, 1, 2, 1, 400, 0);
        y.yard(2, 3, 2, 3, 500, 0);
        secondIs(y, 2, 2, 40 + 30);
        // A yard where the light begins: 69, and half of 31 by way 3.
        y.yard(5, 0, 5, 0, 699, 0);
        secondIs(y, 5, 3, 69 + 15);
        y.yard(5, 4, 5, 4, 701, 0);
        secondIs(y, 5, 2, 69 + 21);
    }

    private static void secondNone() {
        Bounds.by("SECOND: -2: there is none");
        OneSunbeam x = yardAt(2, 2);
        x.rock(0, 0, 5, 4, true);
        secondIs(x, -2, -2, -2);
        x.rock(1, 1, 4, 3, false);
        secondIs(x, -2, -2, -2);
        x.rock(5, 4, 5, 4, false);
        secondIs(x, 24 * 4 + 5, 4, 0);
        OneSunbeam y = yardAt(2, 2);
        y.sun(0, 0, 3, 0);
        secondIs(y, 0, 0, 0);
    }

    /** Each try is a town of its own, with its gap there. */
    private static int[] secondByTried(int seed) {
        int[] best = {-2, -2, -2};
        for (int cell = 0; cell < 5 * 6; cell++) {
            int x = cell % 6, y = cell / 6;
            boolean isEdge = x == 0 || y == 0 || x == 5 || y == 4;
            for (int way = 0; way < 8; way++) {
                int nextX = x + Bounds.DX[way], nextY = y + Bounds.DY[way];
                boolean isInto = nextX >= 0 && nextY >= 0 && nextX < 6 && nextY < 5;
                OneSunbeam town = furnished(seed, x, y, way);
                boolean isOpen = town.cell(x, y, 0) == 0 && !(x == 0 && y == 1);
                if (isEdge && isInto && isOpen && town.light(0, 0) > best[2]) {
                    best = new int[] {24 * y + x, way, town.light(0, 0)};
                }
            }
        }
        return best;
    }

    private static OneSunbeam furnished(int seed, int gapX, int gapY, int way) {
        OneSunbeam x = new OneSunbeam();
        x.town(6, 5, gapX, gapY, 3);
        x.sun(0, 0, way, 5000);
        x.rock(seed % 6, 0, seed % 6, 0, true);
        x.rock(2, 4, 2 + seed % 4, 4, true);
        x.mirror(2, 1, seed % 8, 20, 100, 0, 0);
        x.mirror(3, 3, seed * 3 % 8, 30, 0, 0, 0);
        x.mirror(5, 2, (seed + 3) % 8, 0, 300, 0, 0);
        x.yard(3, 1, 4, 2, 200, 0);
        x.yard(1, 3, 1, 3, 300, 0);
        x.yard(4, 0, 5, 4, 50, 0);
        return x;
    }

    private static void secondByTrying() {
        Bounds.by("where SUN's strength, TRACED from there alone, gives all YARDS together most");
        for (int seed = 0; seed < 16; seed++) {
            int[] want = secondByTried(seed);
            secondIs(furnished(seed, 0, 1, seed % 3), want[0], want[1], want[2]);
        }
    }

    private static void secondRefused() {
        Bounds.by("SECOND what 0: the CELL, 1: the WAY, 2: what all get by it; NONE without these");
        Bounds.refused("what -1", NONE, x -> x.second(0, -1));
        Bounds.refused("what 3", NONE, x -> x.second(0, 3));
        Bounds.refused("hour -1", NONE, x -> x.second(-1, 0));
        Bounds.refused("hour 24", NONE, x -> x.second(24, 0));
        Bounds.refused("a dark hour", NONE, x -> x.second(1, 0));
        Bounds.refused("far", NONE, x -> x.second(MOST, LEAST));
        Bounds.refused("nothing happens", Bounds.busy().second(0, 0), x -> x.second(0, 0));
    }

    private static void thiefIs(OneSunbeam x, int mirror, int missing, int explains) {
        Bounds.due("thief: mirror", x.thief(0, 0), mirror);
        Bounds.due("thief: missing", x.thief(0, 1), missing);
        Bounds.due("thief: explains", x.thief(0, 2), explains);
    }

    /** 1000 come to mirror 0, 800 to mirror 1, 360 to mirror 2: air and yards are none, losses 200 and 550. */
    private static OneSunbeam threeInARow() {
        OneSunbeam x = Bounds.plain();
        x.mirror(2, 1, 0, 200, 0, 0, 0);
        x.mirror(4, 1, 0, 550, 0, 0, 0);
        x.mirror(6, 1, 0, 0, 0, 0, 0);
        return x;
    }

    private static void thiefReading() {
        Bounds.by("THIEF: the first with a READING that is less than what comes: how much is missing");
        OneSunbeam x = threeInARow();
        thiefIs(x, -2, 0, 0);
        x.sets(1, 3, 800);
        thiefIs(x, -2, 0, 0);
        x.sets(1, 3, 801);
        thiefIs(x, -2, 0, 0);
        x.sets(1, 3, 799);
        thiefIs(x, 1, 1, 1);
        x.sets(1, 3, 0);
        thiefIs(x, 1, 800, 1);
        x.sets(2, 3, 359);
        thiefIs(x, 1, 800, 0);
        x.sets(0, 3, 999);
        thiefIs(x, 0, 1, 0);
        x.sets(0, 3, 99999);
        thiefIs(x, 1, 800, 0);
        x.sets(1, 3, NONE);
        thiefIs(x, 2, 1, 1);
        x.sets(2, 3, 360);
        thiefIs(x, -2, 0, 0);
        x.sun(0, 0, 0, 0);
        x.sets(0, 3, 0);
        thiefIs(x, -2, 0, 0);
        x.sun(0, 0, 0, 1);
        thiefIs(x, 0, 1, 0);
        x.sets(2, 3, 0);
        thiefIs(x, 0, 1, 1);
        thiefOf24();
    }

    private static void thiefOf24() {
        OneSunbeam x = new OneSunbeam();
        x.town(24, 4, 0, 1, 0);
        x.sun(0, 0, 0, 1000);
        for (int i = 0; i < 24; i++) x.mirror(23 - i, 1, 0, 0, 0, 0, 0);
        x.sets(0, 3, 999);
        // Mirror 0 is the last of 24.
        thiefIs(x, 0, 1, 1);
        x.sets(23, 3, 998);
        thiefIs(x, 23, 2, 0);
        x.sets(0, 3, 998);
        thiefIs(x, 23, 2, 1);
    }

    private static void thiefAlongTheFirstBeam() {
        Bounds.by("along the first BEAM (what is turned is still it), MIRROR by MIRROR, none of them broken (behind the air and YARD there)");
        OneSunbeam x = new OneSunbeam();
        x.town(8, 6, 0, 1, 0);
        x.sun(0, 0, 0, 1000);
        x.mirror(2, 1, 2, 0, 300, 0, 0);
        x.mirror(5, 1, 0, 0, 0, 0, 0);
        x.mirror(2, 4, 2, 0, 0, 0, 0);
        x.yard(2, 4, 2, 4, 100, 0);
        x.sets(1, 3, 0);
        thiefIs(x, -2, 0, 0);
        // 700 are turned; the yard takes 70.
        x.sets(2, 3, 630);
        thiefIs(x, -2, 0, 0);
        x.sets(2, 3, 629);
        thiefIs(x, 2, 1, 1);
        x.sets(0, 2, 1);
        thiefIs(x, 1, 1000, 1);
        x.sets(1, 2, 1);
        thiefIs(x, -2, 0, 0);
        OneSunbeam y = new OneSunbeam();
        y.town(8, 6, 0, 1, 100);
        y.sun(0, 0, 0, 1000);
        y.mirror(1, 1, 0, 0, 0, 0, 0);
        // 900, and 810 behind the air there.
        y.sets(0, 3, 810);
        thiefIs(y, -2, 0, 0);
        y.sets(0, 3, 809);
        thiefIs(y, 0, 1, 1);
    }

    private static void thiefFirstTimeAlone() {
        Bounds.by("as it comes to them (each the first time alone)");
        OneSunbeam x = Bounds.plain();
        x.mirror(3, 1, 0, 0, 0, 0, 0);
        x.mirror(5, 1, 4, 500, 0, 0, 0);
        // To mirror 0 with 1000, to mirror 1, back to mirror 0 with 500 and out.
        x.sets(0, 3, 1000);
        thiefIs(x, -2, 0, 0);
        x.sets(0, 3, 501);
        thiefIs(x, 0, 499, 1);
        x.sets(1, 3, 501);
        thiefIs(x, 0, 499, 1);
        x.sets(1, 3, 500);
        thiefIs(x, 0, 499, 0);
        x.sets(0, 3, 500);
        thiefIs(x, 0, 500, 1);
        // Round for ever: each is met once all the same.
        OneSunbeam y = new OneSunbeam();
        y.town(4, 4, 1, 1, 0);
        y.sun(0, 0, 0, 99999);
        y.mirror(0, 1, 4, 1, 0, 0, 0);
        y.mirror(3, 1, 4, 1, 0, 0, 0);
        y.sets(1, 3, 99999);
        thiefIs(y, -2, 0, 0);
        y.sets(1, 3, 99998);
        y.sets(0, 3, 99899);
        thiefIs(y, 1, 1, 1);
        y.sets(0, 3, 99900);
        thiefIs(y, 1, 1, 0);
    }

    private static void thiefExplains() {
        Bounds.by("all READINGS of those behind it are what would come (0, if the BEAM would not come so far) if so much were gone there");
        OneSunbeam x = threeInARow();
        x.sets(0, 3, 900);
        thiefIs(x, 0, 100, 1);
        // 900 less 180 is 720; 720 less 396 is 324.
        x.sets(1, 3, 720);
        thiefIs(x, 0, 100, 1);
        x.sets(2, 3, 324);
        thiefIs(x, 0, 100, 1);
        x.sets(2, 3, 323);
        thiefIs(x, 0, 100, 0);
        x.sets(2, 3, 325);
        thiefIs(x, 0, 100, 0);
        x.sets(2, 3, 324);
        x.sets(1, 3, 721);
        thiefIs(x, 0, 100, 0);
        x.sets(1, 3, 719);
        thiefIs(x, 0, 100, 0);
        x.sets(1, 3, NONE);
        thiefIs(x, 0, 100, 1);
        x.sets(0, 3, 0);
        thiefIs(x, 0, 1000, 0);
        x.sets(2, 3, 0);
        thiefIs(x, 0, 1000, 1);
        x.sets(1, 3, 1);
        thiefIs(x, 0, 1000, 0);
        x.sets(1, 3, 0);
        thiefIs(x, 0, 1000, 1);
        // A mirror that the beam does not come to, theft or not, is not behind it.
        x.yard(5, 1, 5, 1, 1000, 0);
        x.sets(2, 3, 9);
        thiefIs(x, 0, 1000, 1);
        // A reading of one ahead of it does not matter.
        OneSunbeam y = threeInARow();
        y.sets(0, 3, 5000);
        y.sets(1, 3, 700);
        y.sets(2, 3, 315);
        thiefIs(y, 1, 100, 1);
    }

    private static void thiefRefused() {
        Bounds.by("THIEF what 0: the MIRROR (-2: none), 1: how much is missing (0: none), 2: 1 if this alone explains, else 0. NONE without these");
        Bounds.refused("what -1", NONE, x -> x.thief(0, -1));
        Bounds.refused("what 3", NONE, x -> x.thief(0, 3));
        Bounds.refused("hour -1", NONE, x -> x.thief(-1, 0));
        Bounds.refused("hour 24", NONE, x -> x.thief(24, 0));
        Bounds.refused("a dark hour", NONE, x -> x.thief(1, 0));
        Bounds.refused("far", NONE, x -> x.thief(MOST, LEAST));
        Bounds.refused("nothing happens", Bounds.busy().thief(6, 0), x -> x.thief(6, 0));
    }

    private static OneSunbeam dustyTown(int strength, int loss) {
        OneSunbeam x = new OneSunbeam();
        x.town(8, 6, 0, 1, 0);
        x.sun(0, 0, 0, strength);
        x.mirror(3, 1, 2, loss, 0, 0, 0);
        x.mirror(6, 5, 0, 0, 0, 0, 0);
        x.yard(3, 3, 3, 3, 1000, 0);
        x.yard(1, 1, 1, 1, 1, 0);
        x.sets(0, 1, 7);
        return x;
    }

    private static void dusty() {
        Bounds.by("DUSTY of a MIRROR: the least DUST (0 to 1000) with which a YARD gets no more than a told light");
        OneSunbeam x = dustyTown(99999, 0);
        // The other yard takes 99 ahead of it: 99900 come, and 100 or 99 of them are lost by each thousandth.
        Bounds.due("all that comes", x.dusty(0, 0, 0, 99900), 0);
        Bounds.due("one less", x.dusty(0, 0, 0, 99899), 1);
        Bounds.due("99 less", x.dusty(0, 0, 0, 99801), 1);
        Bounds.due("100 less", x.dusty(0, 0, 0, 99800), 2);
        Bounds.due("100 are left at 999", x.dusty(0, 0, 0, 100), 999);
        Bounds.due("99 are not", x.dusty(0, 0, 0, 99), 1000);
        Bounds.due("none", x.dusty(0, 0, 0, 0), 1000);
        Bounds.due("its dust stays", x.mirrors(0, 7), 7);
        Bounds.due("with a loss", dustyTown(99999, 400).dusty(0, 0, 0, 0), 600);
        Bounds.due("with a loss", dustyTown(99999, 999).dusty(0, 0, 0, 0), 1);
        Bounds.due("with all lost", dustyTown(99999, 1000).dusty(0, 0, 0, 0), 0);
        Bounds.due("no light", dustyTown(0, 0).dusty(0, 0, 0, 0), 0);
    }

    /** Beams from row 1 crowd some of row 3 out of the 60 that wait, unless mirror 2 is dusty. */
    private static OneSunbeam crowd() {
        OneSunbeam x = new OneSunbeam();
        x.town(24, 4, 1, 1, 0);
        x.sun(0, 0, 0, 99999);
        x.mirror(1, 1, 2, 0, 50, 0, 0);
        x.mirror(1, 3, 2, 0, 0, 0, 0);
        x.mirror(3, 1, 0, 0, 0, 0, 0);
        for (int i = 0; i < 8; i++) x.mirror(5 + i, 1, 0, 0, 1, 0, 0);
        for (int i = 0; i < 11; i++) x.mirror(2 + i, 3, 0, 0, 9, 0, 0);
        x.mirror(20, 1, 0, 999, 0, 0, 0);
        x.yard(23, 0, 23, 3, 1000, 0);
        return x;
    }

    /** To and fro between mirrors until 2000 cells are used up: dust leaves more cells for others. */
    private static OneSunbeam toAndFro() {
        OneSunbeam x = new OneSunbeam();
        x.town(4, 4, 1, 1, 0);
        x.sun(0, 0, 0, 99999);
        x.mirror(3, 1, 4, 0, 2, 0, 0);
        x.mirror(2, 1, 4, 0, 256, 0, 0);
        x.mirror(0, 1, 4, 0, 2, 0, 0);
        x.yard(2, 1, 2, 1, 573, 0);
        return x;
    }

    /** What the yard gets with each dust of mirror 2; a new object for each 200, for an object has 512 calls. */
    private static int[] getsWithEachDust(Bounds.Start start) {
        int[] gets = new int[1001];
        OneSunbeam x = start.make();
        for (int dust = 0; dust <= 1000; dust++) {
            if (dust % 200 == 0) x = start.make();
            x.sets(2, 1, dust);
            gets[dust] = x.gets(0, 0);
        }
        return gets;
    }

    private static void dustyByTrying() {
        Bounds.by("the least DUST with which a YARD gets no more, though it may get more again with more dust");
        for (Bounds.Start start : new Bounds.Start[] {HourBoundsTest::crowd, HourBoundsTest::toAndFro}) {
            int[] gets = getsWithEachDust(start);
            int rises = 0;
            for (int dust = 1; dust <= 1000; dust++) rises += gets[dust] > gets[dust - 1] ? 1 : 0;
            Bounds.due("it rises somewhere", rises > 0, true);
            int least = gets[0];
            for (int get : gets) least = Math.min(least, get);
            for (int light = least - 1; light <= gets[0]; light += Math.max(1, (gets[0] - least) / 150)) {
                int dust = 0;
                while (dust <= 1000 && gets[dust] > light) dust++;
                Bounds.due("no more than " + light, start.make().dusty(0, 2, 0, light), dust > 1000 ? -2 : dust);
            }
        }
        Bounds.due("one less than without dust", crowd().dusty(0, 2, 0, 94984), 194);
        Bounds.due("the least of all", crowd().dusty(0, 2, 0, 94982), 597);
        Bounds.due("less than that", crowd().dusty(0, 2, 0, 94981), -2);
        Bounds.due("with all dust it gets more than this", toAndFro().dusty(0, 2, 0, 66444), 566);
        // What mirror 0 lets through goes round until 2000 cells are used up; the rest goes down to the yard.
        OneSunbeam x = new OneSunbeam();
        x.town(24, 4, 1, 1, 0);
        x.sun(0, 0, 0, 99999);
        x.mirror(1, 1, 2, 0, 3, 0, 0);
        x.mirror(1, 0, 0, 0, 0, 0, 0);
        x.mirror(23, 1, 4, 0, 0, 0, 0);
        x.yard(1, 3, 1, 3, 1000, 0);
        Bounds.due("cells", x.light(0, 3), 2000);
        Bounds.due("as much as it gets", x.dusty(0, 0, 0, 99700), 0);
        Bounds.due("one less", x.dusty(0, 0, 0, 99699), 1);
        Bounds.due("100 are left at 999", x.dusty(0, 0, 0, 100), 999);
        Bounds.due("not at 1000", x.dusty(0, 0, 0, 99), 1000);
    }

    private static void dustyNone() {
        Bounds.by("DUSTY: -2: none");
        OneSunbeam x = dustyTown(99999, 0);
        Bounds.due("the yard gets 99 ahead of it", x.dusty(0, 0, 1, 99), 0);
        Bounds.due("no dust makes that less", x.dusty(0, 0, 1, 98), -2);
        // Mirror 0 has dust 7: 699 of 99900 are lost.
        Bounds.due("no light comes to the other mirror", x.dusty(0, 1, 0, 99200), -2);
        Bounds.due("nor is it needed", x.dusty(0, 1, 0, 99201), 0);
        x.sets(0, 2, 1);
        x.yard(5, 1, 5, 1, 1000, 0);
        Bounds.due("a broken one", x.dusty(0, 0, 2, 99899), -2);
        OneSunbeam y = dustyTown(99999, 0);
        y.yard(2, 1, 4, 1, 1, 0);
        Bounds.due("less of it at the least", y.dusty(0, 0, 2, 98), -2);
    }

    private static void dustyRefused() {
        Bounds.by("DUSTY; NONE without these (light 0 to 9999999)");
        Bounds.due("the highest light", dustyTown(99999, 0).dusty(0, 0, 0, 9999999), 0);
        Bounds.due("the last mirror and yard", dustyTown(99999, 0).dusty(0, 1, 1, 99), 0);
        Bounds.refused("light -1", NONE, x -> x.dusty(0, 0, 0, -1));
        Bounds.refused("light 10000000", NONE, x -> x.dusty(0, 0, 0, 10000000));
        Bounds.refused("the least light", NONE, x -> x.dusty(0, 0, 0, LEAST));
        Bounds.refused("the greatest light", NONE, x -> x.dusty(0, 0, 0, MOST));
        Bounds.refused("mirror -1", NONE, x -> x.dusty(0, -1, 0, 1));
        Bounds.refused("mirror 3 of 3", NONE, x -> x.dusty(0, 3, 0, 1));
        Bounds.refused("mirror 24", NONE, x -> x.dusty(0, 24, 0, 1));
        Bounds.refused("yard -1", NONE, x -> x.dusty(0, 0, -1, 1));
        Bounds.refused("yard 2 of 2", NONE, x -> x.dusty(0, 0, 2, 1));
        Bounds.refused("yard 8", NONE, x -> x.dusty(0, 0, 8, 1));
        Bounds.refused("hour -1", NONE, x -> x.dusty(-1, 0, 0, 1));
        Bounds.refused("hour 24", NONE, x -> x.dusty(24, 0, 0, 1));
        Bounds.refused("a dark hour", NONE, x -> x.dusty(1, 0, 0, 1));
        Bounds.refused("nothing happens", Bounds.busy().dusty(0, 0, 0, 10), x -> x.dusty(0, 0, 0, 10));
    }
}
