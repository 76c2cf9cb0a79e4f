/** The boundary cases of days by a law, of dark months and of days ahead: Terms II and promises 14, 30 and 31. */
public final class DayBoundsTest {
    private static final int NONE = OneSunbeam.NONE;
    private static final int LEAST = Integer.MIN_VALUE;
    private static final int MOST = Integer.MAX_VALUE;

    public static void main(String[] arguments) {
        daysRange();
        dayLimit();
        lawNumber();
        mirrorOfAClause();
        hours();
        monthAndDay();
        ownSlant();
        sunWord();
        yardWords();
        yardsSoFar();
        division();
        sixtyFourBits();
        signs();
        sumsOfAFact();
        notAndOr();
        firstClauseThatHolds();
        restOfEight();
        shorterWay();
        alikeUpwards();
        reach();
        turnsAheadOfLight();
        dustAtItsMost();
        lightOfTheLastDay();
        met();
        dark();
        darkMonths();
        darkRefused();
        ahead();
        aheadBlind();
        aheadRefused();
        Bounds.end();
    }

    /** One mirror at (3, 3), out of the light, which stands at slant 0 and reaches everywhere. */
    private static OneSunbeam oneMirror() {
        OneSunbeam x = new OneSunbeam();
        x.town(8, 6, 0, 1, 0);
        x.mirror(3, 3, 0, 0, 0, 4, 0);
        return x;
    }

    /** The slant behind a day by this law. */
    private static int slantBy(OneSunbeam x, String text) {
        Bounds.due("law of '" + text + "'", Bounds.law(x, text), 0);
        x.days(0, 1);
        return x.mirrors(0, 2);
    }

    private static void slant(String sum, int want) {
        Bounds.due("slant by " + sum, slantBy(oneMirror(), "turn 0 " + sum), want);
    }

    private static void daysRange() {
        Bounds.by("So many DAYS (1 to 30) go by, by a LAW; NONE, and nothing happens, without these");
        OneSunbeam x = Bounds.busy();
        Bounds.due("a day", x.days(0, 1) >= 0, true);
        Bounds.due("day", x.count(5), 2);
        Bounds.due("thirty", x.days(1, 30) >= 0, true);
        Bounds.due("day", x.count(5), 32);
        Bounds.refused("no day", NONE, town -> town.days(0, 0));
        Bounds.refused("31 days", NONE, town -> town.days(0, 31));
        Bounds.refused("-1 day", NONE, town -> town.days(0, -1));
        Bounds.refused("the least", NONE, town -> town.days(0, LEAST));
        Bounds.refused("the greatest", NONE, town -> town.days(0, MOST));
        Bounds.refused("law -1", NONE, town -> town.days(-1, 1));
        Bounds.refused("law 2 of 2", NONE, town -> town.days(2, 1));
        Bounds.refused("law 6", NONE, town -> town.days(6, 1));
        Bounds.refused("law of the least", NONE, town -> town.days(LEAST, 1));
        Bounds.refused("law of the greatest", NONE, town -> town.days(MOST, 1));
    }

    private static OneSunbeam atDay(int day) {
        OneSunbeam x = new OneSunbeam();
        x.town(5, 5, 2, 2, 0);
        x.sun(0, 3, 0, 100);
        x.mirror(3, 2, 2, 0, 0, 1, 0);
        x.yard(3, 3, 3, 3, 500, 10);
        Bounds.law(x, "turn 0 2");
        for (int passed = 0; passed < day; passed += 30) x.days(0, Math.min(30, day - passed));
        return x;
    }

    private static void dayLimit() {
        Bounds.by("DAY (0 at first, 9999 at most): NONE, and nothing happens, if DAY would be above 9999");
        Bounds.due("0 at first", oneMirror().count(5), 0);
        OneSunbeam x = atDay(9969);
        Bounds.due("up to 9999", x.days(0, 30), 1);
        Bounds.due("day", x.count(5), 9999);
        Bounds.due("one more", x.days(0, 1), NONE);
        Bounds.due("day", x.count(5), 9999);
        Bounds.due("thirty more", x.days(0, 30), NONE);
        Bounds.due("light stays", x.yards(0, 0), 50);
        // The document refuses days() alone there: what would be can still be asked for.
        Bounds.due("ten days ahead", x.ahead(0, 10, 0), 50);
        Bounds.due("dark months", x.dark(0, 0, 50), 4095 & ~1);
        Bounds.due("day", x.count(5), 9999);
        OneSunbeam y = atDay(9970);
        y.sun(0, 3, 0, 300);
        Bounds.due("10000", y.days(0, 30), NONE);
        Bounds.due("nothing happened: day", y.count(5), 9970);
        Bounds.due("nothing happened: light", y.yards(0, 0), 50);
        Bounds.due("29 more", y.days(0, 29), 1);
        Bounds.due("day", y.count(5), 9999);
        Bounds.due("its light", y.yards(0, 0), 150);
        Bounds.due("an image of it", y.image(0), 9999);
        Bounds.due("back to it", y.back(0), 9999);
    }

    private static void lawNumber() {
        Bounds.by("LAWS 0 to 5, by a LAW");
        for (int law = 0; law < 6; law++) {
            OneSunbeam x = oneMirror();
            for (int i = 0; i < 6; i++) Bounds.law(x, "turn 0 " + (i + 1));
            x.days(law, 1);
            Bounds.due("by law " + law, x.mirrors(0, 2), law + 1);
            Bounds.due("a seventh", x.days(6, 1), NONE);
        }
    }

    private static void mirrorOfAClause() {
        Bounds.by("turn NUMBER SUM (a MIRROR: 0 to 23): each MIRROR for which there is a CLAUSE");
        OneSunbeam x = Bounds.fullOfMirrors();
        x.end(0);
        Bounds.due("law", Bounds.law(x, "turn 23 0;turn 00000 7"), 1);
        x.days(1, 10);
        Bounds.due("the last mirror", x.mirrors(23, 2), 0);
        Bounds.due("the first mirror", x.mirrors(0, 2), 7);
        Bounds.due("another stays", x.mirrors(22, 2), 6);
        OneSunbeam y = oneMirror();
        y.mirror(4, 4, 5, 0, 0, 4, 0);
        Bounds.due("mirrors that are not there", slantBy(y, "turn 2 1; turn 23 slant+1; turn 0 3"), 3);
        Bounds.due("none came", y.count(2), 2);
        Bounds.due("the other stays", y.mirrors(1, 2), 5);
    }

    private static void hours() {
        Bounds.by("of each hour: hour (0 to 23)");
        slant("hour", 7);
        slant("1 if hour = 0", 1);
        slant("1 if hour < 0", 0);
        slant("1 if hour = 23", 1);
        slant("1 if hour > 23", 0);
        slant("slant + 1", 0);
        slant("slant + 1 if hour > 0", 7);
        slant("slant + 1 if hour < 23", 7);
    }

    private static void monthAndDay() {
        Bounds.by("month, day (DAY)");
        for (int month : new int[] {0, 11}) {
            OneSunbeam x = oneMirror();
            x.month(month);
            Bounds.due("month " + month, slantBy(x, "turn 0 month"), month % 8);
        }
        OneSunbeam x = oneMirror();
        Bounds.due("the first day is 0", slantBy(x, "turn 0 day + 3"), 3);
        x.days(0, 4);
        Bounds.due("the fifth is 4", x.mirrors(0, 2), 7);
        x.days(0, 1);
        Bounds.due("the sixth is 5", x.mirrors(0, 2), 0);
        OneSunbeam y = atDay(9998);
        y.end(0);
        Bounds.law(y, "turn 0 1 if day = 9998");
        y.days(1, 1);
        Bounds.due("the last is 9998", y.mirrors(0, 2), 1);
    }

    private static void ownSlant() {
        Bounds.by("slant (of that MIRROR; 0 without it)");
        OneSunbeam x = oneMirror();
        x.mirror(4, 4, 5, 0, 0, 4, 0);
        x.sets(0, 0, 2);
        Bounds.due("of its own, not of another", slantBy(x, "turn 1 slant + 1 if hour = 5; turn 0 slant + 2 if hour = 5"), 4);
        Bounds.due("the other's own", x.mirrors(1, 2), 6);
        Bounds.due("without it nothing turns", slantBy(oneMirror(), "turn 5 slant + 1"), 0);
    }

    private static void sunWord() {
        Bounds.by("sun (its WAY; 8 if it is dark)");
        for (int way = 0; way < 8; way++) {
            OneSunbeam x = oneMirror();
            x.sun(0, 5, way, 0);
            Bounds.due("way " + way, slantBy(x, "turn 0 sun if hour = 5"), way);
        }
        slant("3 if sun = 8", 3);
        slant("3 if sun < 8 or sun > 8", 0);
        OneSunbeam x = oneMirror();
        x.sun(1, 5, 2, 9);
        Bounds.due("of another month", slantBy(x, "turn 0 3 if sun < 8"), 0);
    }

    private static void yardWords() {
        Bounds.by("a to h (what that YARD got in this day so far; 0 without it)");
        for (int yard = 0; yard < 8; yard++) {
            OneSunbeam x = Bounds.plain();
            x.mirror(3, 3, 0, 0, 0, 4, 0);
            String word = String.valueOf((char) ('a' + yard));
            for (int i = 0; i < yard; i++) x.yard(0, 5, 0, 5, 1, 0);
            Bounds.due(word + " without it", slantBy(x, "turn 0 " + word + " + 2"), 2);
            x.yard(4, 1, 4, 1, 3, 0);
            x.days(0, 1);
            Bounds.due(word + " got 3", x.mirrors(0, 2), 5);
            for (int i = yard + 1; i < 8; i++) x.yard(4, 1, 7, 1, 1000, 0);
            x.days(0, 1);
            Bounds.due(word + " got 3, others more", x.mirrors(0, 2), 5);
        }
    }

    private static void yardsSoFar() {
        Bounds.by("all have got nothing yet; what that YARD got in this day so far");
        OneSunbeam x = Bounds.plain();
        x.sun(0, 5, 0, 1000);
        x.mirror(3, 3, 0, 0, 0, 4, 0);
        x.yard(4, 1, 4, 1, 1, 0);
        Bounds.due("nothing ahead of the first hour", slantBy(x, "turn 0 a + 2 if hour = 0"), 2);
        x.days(0, 3);
        Bounds.due("nor on a later day", x.mirrors(0, 2), 2);
        x.end(0);
        Bounds.law(x, "turn 0 a if hour = 5");
        x.days(1, 1);
        Bounds.due("not yet of this hour", x.mirrors(0, 2), 1);
        Bounds.law(x, "turn 0 a if hour = 6");
        x.days(2, 2);
        Bounds.due("of this hour", x.mirrors(0, 2), 2);
    }

    private static void division() {
        Bounds.by("/ is towards 0, 0 by 0");
        slant("7 / 2", 3);
        slant("9 / 2", 4);
        slant("0 - 7 / 2", 5);
        // 12 * 2 to the 60th has gone round to below 0: -4 by 3 is -1, by 5 it is 0.
        slant("5 if 32768*32768*32768*32768*12 / 32768/32768/32768/32768 = 0 - 4", 5);
        slant("5 if 32768*32768*32768*32768*12 / 32768/32768/32768/32768 / 3 = 0 - 1", 5);
        slant("5 if 32768*32768*32768*32768*12 / 32768/32768/32768/32768 / 5 = 0", 5);
        slant("3 / 0", 0);
        slant("0 / 0 + 4", 4);
        slant("3 / a * 2 + 5", 5);
        slant("4 / 4", 1);
        slant("4 / 5", 0);
    }

    private static void sixtyFourBits() {
        Bounds.by("all goes round in 64 bits");
        String high = "32768*32768*32768*32768";
        slant("5 if " + high + "*4 > 0", 5);
        slant("5 if " + high + "*8 < 0", 5);
        slant("5 if " + high + "*16 = 0", 5);
        slant("5 if " + high + "*8 - 1 > 0", 5);
        slant("5 if " + high + "*4 + " + high + "*4 < 0", 5);
        slant("5 if " + high + "*4 - 1 + " + high + "*4 > 0", 5);
        slant(high + "*8 - 1", 7);
        slant("5 if 0 - " + high + "*8 < 0", 5);
        slant("5 if " + high + "*8 / 32768/32768/32768/32768 = 0 - 8", 5);
    }

    private static void signs() {
        Bounds.by("SIGN one of < <= = >= >");
        String[] signs = {"<", "<=", "=", ">=", ">"};
        boolean[][] holds = {{true, false, false}, {true, true, false}, {false, true, false}, {false, true, true}, {false, false, true}};
        for (int sign = 0; sign < 5; sign++) {
            for (int left = 4; left <= 6; left++) slant("3 if " + left + signs[sign] + "5", holds[sign][left - 4] ? 3 : 0);
        }
    }

    private static void sumsOfAFact() {
        Bounds.by("SUM SIGN SUM. SUM: TERM { (+ or -) TERM }. TERM: VALUE { (* or /) VALUE }");
        String[] signs = {"<", "<=", "=", ">=", ">"};
        int[][] sides = {{5, 2, 4}, {6, 2, 4}, {7, 2, 4}, {0, 5, 4}, {1, 5, 4}, {2, 5, 4}, {0, 0, 1}};
        for (int[] of : sides) {
            for (int sign = 0; sign < 5; sign++) {
                String by = " " + signs[sign] + " ";
                slant("3 if " + of[0] + by + of[1] + " + " + of[2], doesHold(of[0], sign, of[1] + of[2]) ? 3 : 0);
                slant("3 if " + of[0] + by + of[1] + " - " + of[2], doesHold(of[0], sign, of[1] - of[2]) ? 3 : 0);
                slant("3 if " + of[0] + by + of[1] + " * " + of[2], doesHold(of[0], sign, of[1] * of[2]) ? 3 : 0);
                slant("3 if " + of[0] + by + of[1] + " / " + of[2], doesHold(of[0], sign, of[1] / of[2]) ? 3 : 0);
                slant("3 if " + of[1] + " + " + of[2] + by + of[0], doesHold(of[1] + of[2], sign, of[0]) ? 3 : 0);
                slant("3 if " + of[1] + " - " + of[2] + by + of[0], doesHold(of[1] - of[2], sign, of[0]) ? 3 : 0);
                slant("3 if " + of[1] + " * " + of[2] + by + of[0], doesHold(of[1] * of[2], sign, of[0]) ? 3 : 0);
            }
        }
        slant("2 + 3 * 4", 6);
        slant("2 * 3 + 4", 2);
        slant("9 - 3 - 2", 4);
        slant("9 - 3 + 2", 0);
        slant("24 / 4 / 2", 3);
        slant("24 / 4 * 2", 4);
        slant("3 * 5 / 2", 7);
        slant("5 / 2 * 3", 6);
    }

    private static boolean doesHold(int left, int sign, int right) {
        switch (sign) {
            case 0: return left < right;
            case 1: return left <= right;
            case 2: return left == right;
            case 3: return left >= right;
            default: return left > right;
        }
    }

    private static void notAndOr() {
        Bounds.by("TEST: PART { or PART }. PART: FACT { and FACT }. FACT: not FACT | [ TEST ]");
        String[] facts = {"1=2", "1=1"};
        for (int bits = 0; bits < 8; bits++) {
            boolean a = (bits & 1) != 0, b = (bits & 2) != 0, c = (bits & 4) != 0;
            String of = facts[bits & 1], and = facts[bits >> 1 & 1], or = facts[bits >> 2];
            slant("3 if " + of + " and " + and + " or " + or, a && b || c ? 3 : 0);
            slant("3 if " + of + " or " + and + " and " + or, a || b && c ? 3 : 0);
            slant("3 if [" + of + " or " + and + "] and " + or, (a || b) && c ? 3 : 0);
            slant("3 if not " + of + " and " + and, !a && b ? 3 : 0);
            slant("3 if not " + of + " or " + and, !a || b ? 3 : 0);
            slant("3 if not [" + of + " or " + and + "]", a || b ? 0 : 3);
            slant("3 if not not " + of + " and not " + and, a && !b ? 3 : 0);
        }
        slant("3 if " + "not ".repeat(10) + "1=1", 3);
        slant("3 if " + "not ".repeat(9) + "1=1", 0);
    }

    private static void firstClauseThatHolds() {
        Bounds.by("a CLAUSE without a TEST, or whose TEST holds (the first such)");
        slant("1; turn 0 2", 1);
        slant("1 if 1=2; turn 0 2", 2);
        slant("1 if 1=2; turn 0 2 if 1=1; turn 0 3", 2);
        slant("1 if 1=2; turn 0 2 if 1=2", 0);
        slant("1 if 1=2;turn 0 1 if 1=2;turn 0 1 if 1=2;turn 0 1 if 1=2;turn 0 1 if 1=2;turn 0 1 if 1=2;turn 0 1 if 1=2;"
                + "turn 0 1 if 1=2;turn 0 1 if 1=2;turn 0 1 if 1=2;turn 0 1 if 1=2;turn 0 6", 6);
        OneSunbeam x = oneMirror();
        x.mirror(4, 4, 5, 0, 0, 4, 0);
        Bounds.due("one's clause is not the other's", slantBy(x, "turn 1 7; turn 0 2; turn 1 6"), 2);
        Bounds.due("the other's", x.mirrors(1, 2), 7);
    }

    private static void restOfEight() {
        Bounds.by("SUM, of 8 the rest (0 to 7), is the slant that is wanted");
        slant("7", 7);
        slant("8", 0);
        slant("9", 1);
        slant("99999", 7);
        slant("0 - 1", 7);
        slant("0 - 8", 0);
        slant("0 - 9", 7);
        slant("0 - 99999", 1);
    }

    /** The slant behind one turn of a mirror from here to there. */
    private static void turn(int from, int wanted, int reach, int want) {
        OneSunbeam x = new OneSunbeam();
        x.town(4, 4, 0, 0, 0);
        x.mirror(3, 3, from, 0, 0, reach, 0);
        Bounds.due("from " + from + " to " + wanted + " by " + reach, slantBy(x, "turn 0 " + wanted + " if hour = 23"), want);
    }

    private static void shorterWay() {
        Bounds.by("its slant goes there by the shorter way, by reach at most");
        turn(0, 3, 1, 1);
        turn(0, 5, 1, 7);
        turn(7, 2, 1, 0);
        turn(2, 7, 1, 1);
        turn(6, 1, 2, 0);
        turn(1, 6, 2, 7);
        turn(1, 6, 3, 6);
        turn(4, 7, 3, 7);
        turn(4, 1, 3, 1);
    }

    private static void alikeUpwards() {
        Bounds.by("(of alike ones upwards, 7 and then 0)");
        for (int from = 0; from < 8; from++) {
            turn(from, (from + 4) % 8, 1, (from + 1) % 8);
            turn(from, (from + 4) % 8, 3, (from + 3) % 8);
            turn(from, (from + 4) % 8, 4, (from + 4) % 8);
            turn(from, (from + 3) % 8, 1, (from + 1) % 8);
            turn(from, (from + 5) % 8, 1, (from + 7) % 8);
        }
    }

    private static void reach() {
        Bounds.by("reach (0 to 4): by reach at most");
        for (int wanted = 0; wanted < 8; wanted++) {
            turn(2, wanted, 0, 2);
            turn(2, wanted, 4, wanted);
        }
        turn(0, 2, 1, 1);
        turn(0, 2, 2, 2);
        turn(0, 2, 3, 2);
        turn(0, 6, 1, 7);
        turn(0, 6, 2, 6);
        turn(0, 6, 3, 6);
    }

    private static void turnsAheadOfLight() {
        Bounds.by("of each hour: (1) each MIRROR .. (2) If it is not dark, SUN is TRACED from the gap");
        OneSunbeam x = Bounds.plain();
        x.mirror(3, 1, 0, 0, 0, 4, 0);
        x.yard(3, 4, 3, 4, 1000, 0);
        Bounds.law(x, "turn 0 2 if hour = 0; turn 0 0");
        x.days(0, 1);
        Bounds.due("it turned ahead of the light of hour 0", x.yards(0, 0), 1000);
        Bounds.due("and back in dark hours", x.mirrors(0, 2), 0);
        x.sun(0, 0, NONE, 0);
        x.days(0, 1);
        Bounds.due("a dark day", x.yards(0, 0), 0);
        x.sun(0, 23, 0, 70);
        x.days(0, 1);
        Bounds.due("turned away", x.yards(0, 0), 0);
        x.end(0);
        Bounds.law(x, "turn 0 2 if hour = 23; turn 0 0");
        x.days(1, 1);
        Bounds.due("the last hour counts", x.yards(0, 0), 70);
    }

    private static void dustAtItsMost() {
        Bounds.by("At the end DUST of all MIRRORS is more by dust fall (1000 at most)");
        OneSunbeam x = Bounds.plain();
        int[] dust = {0, 901, 902, 1000, 1};
        int[] behind = {99, 1000, 1000, 1000, 100};
        for (int i = 0; i < 5; i++) x.mirror(i, 4, 0, 0, 0, 0, 0);
        for (int i = 0; i < 5; i++) x.sets(i, 1, dust[i]);
        x.sets(4, 2, 1);
        x.falls(99);
        Bounds.law(x, "turn 23 1");
        x.days(0, 1);
        for (int i = 0; i < 5; i++) Bounds.due("dust that was " + dust[i], x.mirrors(i, 7), behind[i]);
        x.falls(0);
        x.days(0, 1);
        Bounds.due("no dust falls", x.mirrors(0, 7), 99);
        OneSunbeam full = Bounds.fullOfMirrors();
        full.days(0, 2);
        for (int i = 0; i < 24; i++) {
            Bounds.due("of all 24", full.mirrors(i, 7), 10);
            Bounds.due("nothing but their dust", full.mirrors(i, 8), 0);
        }
        OneSunbeam y = Bounds.plain();
        y.mirror(3, 1, 2, 0, 0, 0, 0);
        y.yard(3, 3, 3, 3, 1000, 0);
        y.falls(99);
        Bounds.law(y, "turn 23 1");
        y.days(0, 1);
        Bounds.due("not ahead of the end of the day", y.yards(0, 0), 1000);
        y.days(0, 1);
        Bounds.due("on the next day", y.yards(0, 0), 901);
    }

    private static void lightOfTheLastDay() {
        Bounds.by("LIGHT of a YARD: what it got in the last day (0 at first)");
        OneSunbeam x = Bounds.plain();
        x.sun(0, 1, 0, 500);
        x.yard(3, 1, 3, 1, 100, 0);
        Bounds.due("0 at first", x.yards(0, 0), 0);
        Bounds.law(x, "turn 0 0");
        x.days(0, 1);
        Bounds.due("of all hours", x.yards(0, 0), 150);
        x.days(0, 30);
        Bounds.due("of one day, not of all", x.yards(0, 0), 150);
        OneSunbeam y = new OneSunbeam();
        y.town(4, 4, 0, 0, 0);
        for (int hour = 0; hour < 24; hour++) y.sun(0, hour, 0, 99999);
        y.yard(0, 0, 0, 0, 1000, 9999999);
        Bounds.law(y, "turn 0 0");
        y.days(0, 30);
        Bounds.due("the most there can be", y.yards(0, 0), 24 * 99999);
    }

    private static OneSunbeam wants(int... wants) {
        OneSunbeam x = Bounds.plain();
        x.yard(3, 1, 3, 1, 500, wants[0]);
        x.yard(4, 1, 4, 1, 500, wants[1]);
        x.yard(0, 5, 0, 5, 500, wants[2]);
        Bounds.law(x, "turn 0 0");
        return x;
    }

    private static void metBehindADay(int first, int second, int third, int want) {
        OneSunbeam x = wants(first, second, third);
        Bounds.due("ahead, wants " + first + ", " + second + ", " + third, x.ahead(0, 1, -2), want);
        Bounds.due("days, wants " + first + ", " + second + ", " + third, x.days(0, 1), want);
        Bounds.due("count, wants " + first + ", " + second + ", " + third, x.count(6), want);
    }

    private static void met() {
        Bounds.by("MET: YARDS whose LIGHT is not below what they want");
        metBehindADay(500, 250, 0, 3);
        metBehindADay(501, 250, 0, 2);
        metBehindADay(500, 251, 0, 2);
        metBehindADay(500, 250, 1, 2);
        metBehindADay(501, 251, 1, 0);
        metBehindADay(499, 249, 9999999, 2);
        Bounds.due("ahead of the first day", wants(1, 0, 0).count(6), 2);
        Bounds.due("without yards", oneMirror().count(6), 0);
        OneSunbeam x = wants(500, 0, 0);
        x.days(0, 1);
        x.sun(0, 0, 0, 999);
        Bounds.due("by the last one", x.days(0, 2), 2);
    }

    /** In month m a yard gets 100 * m a day. */
    private static OneSunbeam brighterMonths() {
        OneSunbeam x = new OneSunbeam();
        x.town(8, 6, 0, 1, 0);
        for (int month = 0; month < 12; month++) x.sun(month, month, 0, 100 * month);
        x.mirror(2, 1, 0, 0, 0, 4, 0);
        x.yard(5, 1, 5, 1, 1000, 0);
        x.yard(0, 5, 0, 5, 1000, 0);
        Bounds.law(x, "turn 0 0");
        Bounds.law(x, "turn 0 2 if month = 11");
        x.month(4);
        return x;
    }

    private static void dark() {
        Bounds.by("DARK: months (as bits) in which a YARD's LIGHT would be below a bound");
        OneSunbeam x = brighterMonths();
        for (int month = 0; month < 12; month++) {
            int below = (1 << month) - 1;
            Bounds.due("as much as month " + month + " gives", x.dark(0, 0, 100 * month), below);
            Bounds.due("one more", x.dark(0, 0, 100 * month + 1), below | 1 << month);
        }
        Bounds.due("below 0 is none", x.dark(0, 0, 0), 0);
        Bounds.due("all months", x.dark(0, 0, MOST), 4095);
        Bounds.due("the other yard, 0", x.dark(0, 1, 0), 0);
        Bounds.due("the other yard, 1", x.dark(0, 1, 1), 4095);
        Bounds.due("the other law", x.dark(1, 0, 1), 1 | 1 << 11);
    }

    private static void darkMonths() {
        Bounds.by("in a DAY by a LAW from now on");
        OneSunbeam x = Bounds.plain();
        for (int month = 0; month < 12; month++) x.sun(month, 0, 0, 1000);
        x.mirror(3, 1, 0, 0, 0, 1, 0);
        x.yard(3, 4, 3, 4, 1000, 0);
        x.falls(99);
        Bounds.law(x, "turn 0 2 if day = 0 or day = 2");
        // One turn by 1 a month, ahead of the light of hour 0, would bring it to slant 1; each month begins from now.
        Bounds.due("each month from what is now", x.dark(0, 0, 1), 4095);
        x.sets(0, 0, 1);
        Bounds.due("no month's dust is the next one's", x.dark(0, 0, 1000), 0);
        Bounds.due("at its edge", x.dark(0, 0, 1001), 4095);
        x.sets(0, 1, 10);
        Bounds.due("dust of now counts", x.dark(0, 0, 991), 4095);
        Bounds.due("dust of now counts, and no more", x.dark(0, 0, 990), 0);
        x.sets(0, 0, 0);
        x.days(0, 1);
        x.sets(0, 0, 1);
        Bounds.due("day 1", x.dark(0, 0, 1), 4095);
        Bounds.refused("nothing happens", Bounds.busy().dark(0, 0, 100), town -> town.dark(0, 0, 100));
    }

    private static void darkRefused() {
        Bounds.by("DARK; NONE without these");
        Bounds.due("the last law and yard", brighterMonths().dark(1, 1, 1), 4095);
        Bounds.refused("bound -1", NONE, x -> x.dark(0, 0, -1));
        Bounds.refused("bound -2", NONE, x -> x.dark(0, 0, -2));
        Bounds.refused("the least bound", NONE, x -> x.dark(0, 0, LEAST));
        Bounds.refused("law -1", NONE, x -> x.dark(-1, 0, 1));
        Bounds.refused("law 2 of 2", NONE, x -> x.dark(2, 0, 1));
        Bounds.refused("law 6", NONE, x -> x.dark(6, 0, 1));
        Bounds.refused("yard -1", NONE, x -> x.dark(0, -1, 1));
        Bounds.refused("yard 2 of 2", NONE, x -> x.dark(0, 2, 1));
        Bounds.refused("yard 8", NONE, x -> x.dark(0, 8, 1));
        Bounds.refused("far", NONE, x -> x.dark(LEAST, MOST, MOST));
    }

    private static void ahead() {
        Bounds.by("AHEAD of n DAYS (1 to 10) by a LAW: MET then, LIGHT of a YARD");
        OneSunbeam x = Bounds.plain();
        x.mirror(3, 1, 2, 0, 0, 0, 0);
        x.yard(3, 3, 3, 3, 1000, 950);
        x.yard(0, 5, 0, 5, 1000, 0);
        x.falls(10);
        Bounds.law(x, "turn 1 1");
        for (int n = 1; n <= 10; n++) {
            Bounds.due("light in " + n, x.ahead(0, n, 0), 1000 - 10 * (n - 1));
            Bounds.due("light of the other in " + n, x.ahead(0, n, 1), 0);
            Bounds.due("met in " + n, x.ahead(0, n, -2), n <= 6 ? 2 : 1);
        }
        Bounds.due("nothing happened", x.count(5), 0);
        Bounds.due("no dust fell", x.mirrors(0, 7), 0);
        Bounds.refused("light", Bounds.busy().ahead(0, 10, 0), town -> town.ahead(0, 10, 0));
        Bounds.refused("met", Bounds.busy().ahead(1, 10, -2), town -> town.ahead(1, 10, -2));
        Bounds.refused("blind", Bounds.busy().ahead(0, 10, -1), town -> town.ahead(0, 10, -1));
    }

    private static void aheadBlind() {
        Bounds.by("how many hours of them there was a BLIND CELL");
        OneSunbeam x = Bounds.plain();
        for (int hour = 0; hour < 24; hour++) x.sun(0, hour, 0, 100 + hour);
        Bounds.law(x, "turn 0 0");
        Bounds.due("no eyes", x.ahead(0, 10, -1), 0);
        x.eyes(5, 1, 123);
        Bounds.due("as much as the bound", x.ahead(0, 10, -1), 0);
        x.eyes(5, 1, 122);
        Bounds.due("one above it", x.ahead(0, 1, -1), 1);
        Bounds.due("on each day", x.ahead(0, 10, -1), 10);
        x.eyes(6, 1, 122);
        Bounds.due("hours, not cells", x.ahead(0, 10, -1), 10);
        x.eyes(7, 1, 0);
        Bounds.due("all hours", x.ahead(0, 10, -1), 240);
        x.sun(0, 7, NONE, 0);
        Bounds.due("but the dark one", x.ahead(0, 10, -1), 230);
    }

    private static void noneAhead(int law, int n, int what) {
        Bounds.refused("ahead " + law + ", " + n + ", " + what, -3, x -> x.ahead(law, n, what));
    }

    private static void aheadRefused() {
        Bounds.by("AHEAD what -2: MET, -1: hours with a BLIND CELL, 0 and above: LIGHT of that YARD. -3 without these");
        OneSunbeam x = Bounds.busy();
        for (int what = -2; what < 2; what++) Bounds.due("what " + what, x.ahead(1, 1, what) >= 0, true);
        Bounds.due("without yards", oneMirrorAndLaw().ahead(0, 1, -2), 0);
        Bounds.due("without yards", oneMirrorAndLaw().ahead(0, 1, -1), 0);
        Bounds.due("without yards", oneMirrorAndLaw().ahead(0, 1, 0), -3);
        noneAhead(0, 1, -3);
        noneAhead(0, 1, 2);
        noneAhead(0, 1, 8);
        noneAhead(0, 1, LEAST);
        noneAhead(0, 1, MOST);
        noneAhead(0, 0, -2);
        noneAhead(0, 11, -2);
        noneAhead(0, -1, -2);
        noneAhead(0, LEAST, -2);
        noneAhead(-1, 1, -2);
        noneAhead(2, 1, -2);
        noneAhead(6, 1, -2);
        noneAhead(MOST, 1, -2);
    }

    private static OneSunbeam oneMirrorAndLaw() {
        OneSunbeam x = oneMirror();
        Bounds.law(x, "turn 0 0");
        return x;
    }
}
