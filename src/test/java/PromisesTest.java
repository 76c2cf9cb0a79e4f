/** Each promise of the document by its number: ordinary inputs, the edges it names, and wrong inputs. */
public final class PromisesTest {
    private static final int NONE = OneSunbeam.NONE;
    private static int wrong = 0;
    private static int asked = 0;

    private static void due(int promise, String what, long got, long want) {
        asked++;
        if (got != want) {
            wrong++;
            System.out.println("promise " + promise + ": " + what + " answered " + got + ", due is " + want);
        }
    }

    private static void due(int promise, String what, boolean got, boolean want) {
        due(promise, what, got ? 1 : 0, want ? 1 : 0);
    }

    public static void main(String[] arguments) {
        newObject();
        town();
        townForgets();
        rock();
        sun();
        mirror();
        sets();
        yard();
        eyes();
        monthAndFalls();
        tape();
        faults();
        moreFaults();
        lawWords();
        yardWords();
        days();
        turning();
        readers();
        gets();
        light();
        limits();
        passes();
        sees();
        worth();
        aim();
        fair();
        mends();
        second();
        thief();
        dusty();
        dustyByTrying();
        dark();
        ahead();
        count();
        images();
        System.out.println(asked + " answers, " + wrong + " wrong");
        if (wrong != 0) System.exit(1);
    }

    /** A town of 8 by 6, the gap at the left of row 1, sun 1000 by way 0 in hour 0 of month 0. */
    private static OneSunbeam plain() {
        OneSunbeam x = new OneSunbeam();
        x.town(8, 6, 0, 1, 0);
        x.sun(0, 0, 0, 1000);
        return x;
    }

    private static void feed(OneSunbeam x, String text) {
        for (int from = 0; from < text.length(); from += 20) {
            int[] five = new int[5];
            for (int i = 0; i < 20; i++) {
                int sign = from + i < text.length() ? text.charAt(from + i) & 255 : 0;
                five[i / 4] = five[i / 4] << 8 | sign;
            }
            x.feed(five[0], five[1], five[2], five[3], five[4]);
        }
        x.end(text.length());
    }

    private static int law(OneSunbeam x, String text) {
        feed(x, text);
        return x.law();
    }

    private static void fault(String text, int place, int kind) {
        due(13, "law of '" + text + "'", law(new OneSunbeam(), text), -2 - (1 + 8 * place + kind));
    }

    private static void right(String text) {
        due(13, "law of '" + text + "'", law(new OneSunbeam(), text), 0);
    }

    private static void newObject() {
        OneSunbeam x = new OneSunbeam();
        for (int what = 0; what < 8; what++) due(1, "count without a town", x.count(what), NONE);
        due(1, "laws", x.count(8), 0);
        due(1, "tape", x.count(9), 0);
        due(1, "rock", x.rock(0, 0, 0, 0, true), NONE);
        due(1, "sun", x.sun(0, 0, 0, 1), false);
        due(1, "mirror", x.mirror(0, 0, 0, 0, 0, 0, 0), NONE);
        due(1, "sets", x.sets(0, 0, 0), -2);
        due(1, "yard", x.yard(0, 0, 0, 0, 1, 0), NONE);
        due(1, "eyes", x.eyes(0, 0, 0), -2);
        due(1, "month", x.month(0), NONE);
        due(1, "falls", x.falls(0), NONE);
        due(1, "days", x.days(0, 1), NONE);
        due(1, "mirrors", x.mirrors(0, 0), -2);
        due(1, "yards", x.yards(0, 0), NONE);
        due(1, "cell", x.cell(0, 0, 0), -2);
        due(1, "passes", x.passes(0, 0, 0), NONE);
        due(1, "sees", x.sees(0, 0), NONE);
        due(1, "owned", x.owned(0, 0), -1000000);
        due(1, "aim", x.aim(0, 0, 1, 0), NONE);
        due(1, "fair", x.fair(0, 1, 0), NONE);
        due(1, "mends", x.mends(0, 0, 0), NONE);
        due(1, "second", x.second(0, 0), NONE);
        due(1, "thief", x.thief(0, 0), NONE);
        due(1, "dusty", x.dusty(0, 0, 0, 0), NONE);
        due(1, "dark", x.dark(0, 0, 0), NONE);
        due(1, "back", x.back(0), NONE);
        due(1, "a law without a town", law(x, "turn 0 1"), 0);
        due(1, "days without a town", x.days(0, 1), NONE);
        due(1, "ahead without a town", x.ahead(0, 1, -2), -3);
    }

    private static void town() {
        int[][] good = {{4, 4, 0, 0, 0}, {24, 24, 23, 23, 1000}, {4, 24, 3, 23, 1}, {24, 4, 23, 3, 999}, {5, 7, 2, 3, 10}};
        for (int[] g : good) {
            OneSunbeam x = new OneSunbeam();
            due(2, "town", x.town(g[0], g[1], g[2], g[3], g[4]), true);
            due(2, "columns", x.count(0), g[0]);
            due(2, "rows", x.count(1), g[1]);
        }
        int[][] bad = {{3, 4, 0, 0, 0}, {4, 3, 0, 0, 0}, {25, 4, 0, 0, 0}, {4, 25, 0, 0, 0}, {4, 5, 4, 0, 0},
            {5, 4, 0, 4, 0}, {4, 4, -1, 0, 0}, {4, 4, 0, -1, 0}, {4, 4, 0, 0, -1}, {4, 4, 0, 0, 1001}};
        OneSunbeam x = plain();
        x.mirror(1, 1, 0, 0, 0, 0, 0);
        for (int[] b : bad) {
            due(2, "wrong town", x.town(b[0], b[1], b[2], b[3], b[4]), false);
            due(2, "nothing happens", x.count(0), 8);
            due(2, "nothing happens", x.count(2), 1);
        }
    }

    private static void townForgets() {
        OneSunbeam x = plain();
        x.rock(2, 2, 2, 2, true);
        x.mirror(3, 1, 2, 0, 0, 0, 0);
        x.sets(0, 3, 5);
        x.yard(3, 3, 3, 3, 10, 10);
        x.eyes(1, 1, 7);
        x.falls(9);
        law(x, "turn 0 1");
        x.days(0, 2);
        x.month(4);
        feed(x, "turn 0 2");
        due(2, "town again", x.town(8, 6, 0, 1, 0), true);
        due(2, "no rock", x.cell(2, 2, 0), 0);
        due(2, "no eyes", x.cell(1, 1, 1), NONE);
        due(2, "no mirror there", x.cell(3, 1, 2), NONE);
        due(2, "no yard there", x.cell(3, 3, 3), NONE);
        due(2, "no mirrors", x.count(2), 0);
        due(2, "no yards", x.count(3), 0);
        due(2, "month", x.count(4), 0);
        due(2, "day", x.count(5), 0);
        due(2, "dust fall", x.count(7), 0);
        due(2, "laws stay", x.count(8), 1);
        due(2, "tape stays", x.count(9), 8);
        due(2, "no sun", x.light(0, 0), NONE);
        due(2, "first mirror", x.mirror(3, 1, 2, 0, 0, 0, 0), 0);
        due(2, "no reading", x.mirrors(0, 9), NONE);
        due(2, "first yard", x.yard(3, 3, 3, 3, 10, 10), 0);
        due(2, "its light", x.yards(0, 0), 0);
    }

    private static void rock() {
        OneSunbeam x = plain();
        due(3, "rock", x.rock(1, 2, 3, 4, true), 9);
        due(3, "some are rock", x.rock(3, 4, 4, 5, true), 3);
        due(3, "all are", x.rock(1, 2, 3, 4, true), 0);
        due(3, "off", x.rock(0, 0, 7, 5, false), 12);
        due(3, "whole town", x.rock(0, 0, 7, 5, true), 48);
        due(3, "cell", x.cell(7, 5, 0), 1);
        due(3, "one", x.rock(7, 5, 7, 5, false), 1);
        due(3, "cell", x.cell(7, 5, 0), 0);
        int[][] bad = {{-1, 0, 0, 0}, {0, -1, 0, 0}, {0, 0, 8, 0}, {0, 0, 0, 6}, {2, 0, 1, 0}, {0, 2, 0, 1}, {8, 0, 8, 0}};
        for (int[] b : bad) due(3, "wrong rock", x.rock(b[0], b[1], b[2], b[3], false), NONE);
        due(3, "nothing happened", x.rock(0, 0, 7, 5, true), 1);
    }

    private static void sun() {
        OneSunbeam x = plain();
        due(4, "edges", x.sun(11, 23, 7, 99999), true);
        due(4, "strength 0", x.sun(0, 1, 0, 0), true);
        due(4, "strength 0 is not dark", x.light(1, 0), 0);
        due(4, "dark", x.sun(0, 0, NONE, 0), true);
        due(4, "dark hour", x.light(0, 0), NONE);
        due(4, "again", x.sun(0, 0, 0, 5), true);
        int[][] bad = {{-1, 0, 0, 1}, {12, 0, 0, 1}, {0, -1, 0, 1}, {0, 24, 0, 1}, {0, 0, 8, 1}, {0, 0, -2, 0},
            {0, 0, NONE, 1}, {0, 0, 0, -1}, {0, 0, 0, 100000}};
        for (int[] b : bad) due(4, "wrong sun", x.sun(b[0], b[1], b[2], b[3]), false);
        due(4, "nothing happened", x.light(0, 2), 5);
        x.month(11);
        due(4, "of its month", x.light(23, 2), 99999);
        due(4, "other hour", x.light(22, 2), NONE);
    }

    private static void mirror() {
        OneSunbeam x = plain();
        int[][] bad = {{-1, 0, 0, 0, 0, 0, 0}, {8, 0, 0, 0, 0, 0, 0}, {0, 6, 0, 0, 0, 0, 0}, {0, 0, 8, 0, 0, 0, 0},
            {0, 0, -1, 0, 0, 0, 0}, {0, 0, 0, -1, 0, 0, 0}, {0, 0, 0, 1001, 0, 0, 0}, {0, 0, 0, 0, -1, 0, 0},
            {0, 0, 0, 0, 1001, 0, 0}, {0, 0, 0, 0, 0, -1, 0}, {0, 0, 0, 0, 0, 5, 0}, {0, 0, 0, 0, 0, 0, -1},
            {0, 0, 0, 0, 0, 0, 10}};
        for (int[] b : bad) due(5, "wrong mirror", x.mirror(b[0], b[1], b[2], b[3], b[4], b[5], b[6]), NONE);
        due(5, "none made", x.count(2), 0);
        x.rock(0, 0, 0, 0, true);
        due(5, "edges, on rock", x.mirror(0, 0, 7, 1000, 1000, 4, 9), 0);
        due(5, "one is there", x.mirror(0, 0, 0, 0, 0, 0, 0), NONE);
        for (int i = 1; i < 24; i++) due(5, "mirror", x.mirror(i % 8, i / 8, 0, 0, 0, 0, 0), i);
        due(5, "a 25th", x.mirror(7, 5, 0, 0, 0, 0, 0), NONE);
        int[] whats = {0, 0, 7, 1000, 1000, 4, 9, 0, 0, NONE};
        for (int what = 0; what < 10; what++) due(15, "mirrors 0 " + what, x.mirrors(0, what), whats[what]);
        due(15, "x", x.mirrors(23, 0), 7);
        due(15, "y", x.mirrors(23, 1), 2);
        due(15, "no such mirror", x.mirrors(24, 0), -2);
        due(15, "no such what", x.mirrors(0, 10), -2);
        due(15, "below", x.mirrors(0, -1), -2);
        due(15, "below", x.mirrors(-1, 0), -2);
    }

    private static void sets() {
        OneSunbeam x = plain();
        x.mirror(3, 1, 2, 10, 20, 1, 3);
        due(6, "slant", x.sets(0, 0, 7), 2);
        due(6, "slant was", x.sets(0, 0, 0), 7);
        due(6, "dust", x.sets(0, 1, 1000), 0);
        due(6, "dust was", x.sets(0, 1, 3), 1000);
        due(6, "broken", x.sets(0, 2, 1), 0);
        due(6, "broken was", x.sets(0, 2, 0), 1);
        due(6, "reading", x.sets(0, 3, 99999), NONE);
        due(6, "reading was", x.sets(0, 3, NONE), 99999);
        due(6, "no reading", x.sets(0, 3, 0), NONE);
        int[][] bad = {{0, 0, 8}, {0, 0, -1}, {0, 1, 1001}, {0, 1, -1}, {0, 2, 2}, {0, 2, -1}, {0, 3, 100000},
            {0, 3, -2}, {0, 4, 0}, {0, -1, 0}, {1, 0, 0}, {-1, 0, 0}};
        for (int[] b : bad) due(6, "wrong sets", x.sets(b[0], b[1], b[2]), -2);
        due(6, "slant stays", x.mirrors(0, 2), 0);
        due(6, "dust stays", x.mirrors(0, 7), 3);
        due(6, "broken stays", x.mirrors(0, 8), 0);
        due(6, "reading stays", x.mirrors(0, 9), 0);
    }

    private static void yard() {
        OneSunbeam x = plain();
        int[][] bad = {{1, 1, 0, 1, 1, 0}, {1, 1, 1, 0, 1, 0}, {0, 0, 8, 0, 1, 0}, {0, 0, 0, 6, 1, 0}, {-1, 0, 0, 0, 1, 0},
            {0, 0, 0, 0, 0, 0}, {0, 0, 0, 0, 1001, 0}, {0, 0, 0, 0, 1, -1}, {0, 0, 0, 0, 1, 10000000}};
        for (int[] b : bad) due(7, "wrong yard", x.yard(b[0], b[1], b[2], b[3], b[4], b[5]), NONE);
        due(7, "yard", x.yard(1, 2, 3, 4, 1000, 9999999), 0);
        due(7, "one over it", x.yard(3, 4, 4, 5, 1, 0), 1);
        int[] whats = {0, 9999999, 1000, 1, 2, 3, 4};
        for (int what = 0; what < 7; what++) due(16, "yards 0 " + what, x.yards(0, what), whats[what]);
        due(16, "no such what", x.yards(0, 7), NONE);
        due(16, "no such what", x.yards(0, -1), NONE);
        due(16, "no such yard", x.yards(2, 0), NONE);
        due(16, "no such yard", x.yards(-1, 0), NONE);
        due(17, "the first of two", x.cell(3, 4, 3), 0);
        due(17, "the second alone", x.cell(4, 5, 3), 1);
        due(17, "none", x.cell(5, 5, 3), NONE);
        for (int i = 2; i < 8; i++) due(7, "yard", x.yard(0, 0, 7, 5, 1, 0), i);
        due(7, "a ninth", x.yard(0, 0, 0, 0, 1, 0), NONE);
        due(17, "the first that has it", x.cell(5, 5, 3), 2);
    }

    private static void eyes() {
        OneSunbeam x = plain();
        due(8, "eyes", x.eyes(7, 5, 0), NONE);
        due(8, "were", x.eyes(7, 5, 99999), 0);
        due(17, "cell", x.cell(7, 5, 1), 99999);
        due(8, "none", x.eyes(7, 5, NONE), 99999);
        due(8, "were none", x.eyes(7, 5, 4), NONE);
        due(8, "too much", x.eyes(7, 5, 100000), -2);
        due(8, "below", x.eyes(7, 5, -2), -2);
        due(8, "out", x.eyes(8, 5, 1), -2);
        due(8, "out", x.eyes(7, 6, 1), -2);
        due(8, "out", x.eyes(-1, 0, 1), -2);
        due(17, "stay", x.cell(7, 5, 1), 4);
        due(17, "no such what", x.cell(0, 0, 4), -2);
        due(17, "no such what", x.cell(0, 0, -1), -2);
        due(17, "out", x.cell(0, 6, 0), -2);
    }

    private static void monthAndFalls() {
        OneSunbeam x = plain();
        due(9, "month", x.month(11), 0);
        due(9, "month was", x.month(0), 11);
        due(9, "too much", x.month(12), NONE);
        due(9, "below", x.month(-1), NONE);
        due(9, "stays", x.count(4), 0);
        due(10, "falls", x.falls(99), 0);
        due(10, "fell", x.falls(0), 99);
        due(10, "too much", x.falls(100), NONE);
        due(10, "below", x.falls(-1), NONE);
        due(10, "stays", x.count(7), 0);
    }

    private static void tape() {
        OneSunbeam x = new OneSunbeam();
        for (int i = 1; i <= 20; i++) due(11, "feed", x.feed(-1, 0, 1, Integer.MIN_VALUE, Integer.MAX_VALUE), 20 * i);
        due(11, "too much", x.feed(0, 0, 0, 0, 0), NONE);
        due(11, "none came", x.count(9), 400);
        due(12, "too many", x.end(401), NONE);
        due(12, "below", x.end(-1), NONE);
        due(12, "all", x.end(400), 400);
        due(12, "some", x.end(381), 381);
        due(11, "one too much", x.feed(0, 0, 0, 0, 0), NONE);
        due(12, "less", x.end(380), 380);
        due(11, "just enough", x.feed(0, 0, 0, 0, 0), 400);
        due(12, "none", x.end(0), 0);
        due(12, "not so many now", x.end(1), NONE);
        for (int i = 0; i < 6; i++) due(13, "law", law(x, "turn 1 2"), i);
        due(13, "empty then", x.count(9), 0);
        feed(x, "no law");
        due(13, "there are 6", x.law(), NONE);
        due(13, "nothing happens", x.count(9), 6);
        due(13, "laws", x.count(8), 6);
        OneSunbeam y = new OneSunbeam();
        due(13, "the highest byte first", law(y, "turn 23 99999 * month"), 0);
    }

    private static void faults() {
        fault("", 0, 0);
        fault("   ", 3, 0);
        fault("turn", 4, 0);
        fault("turn  ", 6, 0);
        fault("turns 1 1", 0, 0);
        fault("turnz 1 1", 0, 0);
        fault("burn 1 1", 0, 0);
        fault("  Turn 1 1", 2, 0);
        fault("turn a 1", 5, 0);
        fault("turn 24 1", 5, 1);
        fault("turn 000001 1", 5, 1);
        fault("turn 1", 6, 0);
        fault("turn 1 i", 7, 0);
        fault("turn 1 ab", 7, 0);
        fault("turn 1 if", 7, 0);
        fault("turn 1 not", 7, 0);
        fault("turn 1 100000", 7, 1);
        fault("turn 1 1 1", 9, 0);
        fault("turn 1 1+", 9, 0);
        fault("turn 1 1+*2", 9, 0);
        fault("turn 1 1 iff a=1", 9, 0);
        fault("turn 1 1 if a", 13, 0);
        fault("turn 1 1 if a=", 14, 0);
        fault("turn 1 1 if a==1", 14, 0);
        fault("turn 1 1 if a< =1", 15, 0);
        fault("turn 1 1 if a=1=1", 15, 0);
        fault("turn 1 1 if a=<1", 14, 0);
        fault("turn 1 1 if a=1 b", 16, 0);
        fault("turn 1 1 if a=1 and", 19, 0);
        fault("turn 1 1 if a=1 or or", 19, 0);
        fault("turn 1 1 if [a=1", 16, 0);
        fault("turn 1 1 if [a=1;turn 1 1", 16, 0);
        fault("turn 1 1 if a=1]", 15, 0);
        fault("turn 1 1 if [a]=1", 14, 0);
        fault("turn 1 1 if [a=1]+1", 17, 0);
        fault("turn 1 1 if not", 15, 0);
        fault("turn 1 1 if notb=1", 12, 0);
        fault("turn 1 [1]", 7, 0);
        fault("turn 1 -1", 7, 0);
        fault("turn 1 1;", 9, 0);
        fault("turn 1 1;;", 9, 0);
        fault("turn 1 1 or a=1", 9, 0);
        fault("turn 1 1" + (char) 233, 8, 0);
        fault("turn 1 1\n", 8, 0);
        fault("turn 1 1 if a=1 if b=1", 16, 0);
    }

    private static void moreFaults() {
        String twelve = "turn 1 1;".repeat(12);
        right(twelve.substring(0, 107));
        fault(twelve + "turn 24", 108, 4);
        fault(twelve + "  turn", 110, 4);
        fault(twelve + "turns", 108, 0);
        fault(twelve + " ", 109, 0);
        right("turn 1 1" + "+1".repeat(59));
        fault("turn 1 1" + "+1".repeat(60), 127, 3);
        fault("turn 1 1" + "+1".repeat(59) + "+100000", 127, 1);
        fault("turn 1 1" + "+1".repeat(59) + "+x", 127, 0);
        fault("turn 1 1" + "+1".repeat(59) + ";turn 1 a", 134, 3);
        right("turn 1 1" + "+1".repeat(56) + " if 1=1");
        fault("turn 1 1" + "+1".repeat(57) + " if 1=1", 128, 3);
        fault("turn 1 1" + "+1".repeat(58) + " if 1=1", 129, 3);
        right("turn 1 1 if " + "[".repeat(10) + "1=1" + "]".repeat(10));
        fault("turn 1 1 if " + "[".repeat(11) + "1=1" + "]".repeat(11), 22, 2);
        right("turn 1 1 if " + "not ".repeat(10) + "1=1 and " + "not ".repeat(10) + "1=1");
        fault("turn 1 1 if " + "not ".repeat(11) + "1=1", 52, 2);
        fault("turn 1 1 if " + "not[".repeat(5) + " not 1=1", 33, 2);
        right("turn 1 1 if " + "not[".repeat(5) + "1=1" + "]".repeat(5) + " or not 1=1");
        right("turn1 1if[1=1]and not[2<=3]or 4>=hour");
        right("  turn  00023  99999  ");
        right("turn 0 hour+month-day*slant/sun if a+b+c+d<e or f>g and h=1");
    }

    /** One mirror that reaches everywhere and hides nothing: its slant behind a day is what the law told last. */
    private static void slantBy(String sum, int want) {
        OneSunbeam x = new OneSunbeam();
        x.town(8, 6, 0, 1, 0);
        x.mirror(3, 3, 1, 0, 0, 4, 0);
        x.month(5);
        x.sun(5, 23, 3, 10);
        due(13, "law " + sum, law(x, "turn 0 " + sum), 0);
        x.days(0, 1);
        due(14, "slant by " + sum, x.mirrors(0, 2), want);
    }

    private static void lawWords() {
        slantBy("hour", 7);
        slantBy("month", 5);
        slantBy("sun", 3);
        slantBy("day + 6", 6);
        slantBy("slant + 1", (1 + 24) % 8);
        slantBy("1 - 2", 7);
        slantBy("0 - 9 / 2", 4);
        slantBy("0-9/2*2", 0);
        slantBy("7 / 0 + 2", 2);
        slantBy("2 + 3 * 4 - 20 / 3 / 2", 3);
        slantBy("99999 * 99999 * 99999 * 99999 / 99999", (int) Math.floorMod(99999L * 99999 * 99999 * 99999 / 99999, 8L));
        slantBy("a + b + h", 0);
        slantBy("5 if 1 = 2 or 3 > 2 and not 2 >= 3", 5);
        slantBy("5 if not [1 = 1 or 1 = 2]", 1);
        slantBy("5 if 1 = 1 or 1 = 1 and 1 = 2", 5);
        slantBy("5 if [1 = 1 or 1 = 1] and 1 = 2", 1);
        slantBy("5 if not not 1 <= 1", 5);
        slantBy("5 if 2 >= 2", 5);
        slantBy("5 if 2 > 2 or 2 < 2", 1);
        slantBy("5 if 2 = 3 or 2 >= 3 or 3 <= 2", 1);
        slantBy("5 if not 1 < 1 and not 1 > 1", 5);
        slantBy("3 if hour < 23; turn 0 6 if hour > 5; turn 0 1", 6);
        slantBy("3 if sun = 8; turn 0 6", 6);
        slantBy("sun if hour = 22", 0);
        slantBy("5; turn 0 6", 5);
        slantBy("1; turn 9 3", 1);
    }

    private static void yardWords() {
        for (int yard = 0; yard < 8; yard++) {
            OneSunbeam x = plain();
            for (int i = 0; i < yard; i++) x.yard(0, 5, 0, 5, 1000, 0);
            x.yard(4, 1, 4, 1, 5, 0);
            x.mirror(6, 4, 0, 0, 0, 4, 0);
            law(x, "turn 0 " + (char) ('a' + yard) + " if hour = 1");
            x.days(0, 1);
            due(14, "what yard " + yard + " got so far", x.mirrors(0, 2), 5);
            due(14, "its light", x.yards(yard, 0), 5);
        }
    }

    private static void days() {
        OneSunbeam x = plain();
        x.sun(0, 5, 0, 500);
        x.sun(0, 23, 0, 100);
        x.mirror(4, 1, 2, 0, 0, 0, 0);
        x.yard(4, 3, 4, 3, 500, 800);
        x.yard(4, 4, 4, 4, 1000, 801);
        due(14, "no law", x.days(0, 1), NONE);
        law(x, "turn 0 0 if a > 600");
        due(14, "no days", x.days(0, 0), NONE);
        due(14, "too many", x.days(0, 31), NONE);
        due(14, "no such law", x.days(1, 1), NONE);
        due(14, "no such law", x.days(-1, 1), NONE);
        due(14, "nothing happened", x.count(5), 0);
        x.falls(99);
        due(14, "a day", x.days(0, 1), 1);
        due(14, "light", x.yards(0, 0), 800);
        due(14, "light", x.yards(1, 0), 800);
        due(14, "dust", x.mirrors(0, 7), 99);
        due(14, "days", x.days(0, 30), 0);
        due(14, "day", x.count(5), 31);
        due(14, "dust at its most", x.mirrors(0, 7), 1000);
        due(14, "light of the last", x.yards(0, 0), 0);
        OneSunbeam y = plain();
        law(y, "turn 0 0");
        for (int i = 0; i < 333; i++) y.days(0, 30);
        due(14, "day", y.count(5), 9990);
        due(14, "above 9999", y.days(0, 10), NONE);
        due(14, "stays", y.count(5), 9990);
        due(14, "up to 9999", y.days(0, 9), 0);
        due(14, "the end", y.days(0, 1), NONE);
    }

    /** The slant behind one day of a single turn: it turns in hour 0 alone. */
    private static void turns(int from, int reach, int wanted, int want) {
        OneSunbeam x = plain();
        x.mirror(3, 3, from, 0, 0, reach, 0);
        law(x, "turn 0 " + wanted + " if hour = 0");
        x.days(0, 1);
        due(14, "slant " + from + " to " + wanted + " by " + reach, x.mirrors(0, 2), want);
    }

    private static void turning() {
        turns(0, 4, 4, 4);
        turns(0, 1, 4, 1);
        turns(6, 3, 2, 1);
        turns(0, 2, 5, 6);
        turns(0, 4, 5, 5);
        turns(7, 1, 0, 0);
        turns(0, 1, 7, 7);
        turns(3, 0, 7, 3);
        turns(2, 4, 2, 2);
        OneSunbeam x = plain();
        x.mirror(3, 3, 0, 0, 0, 4, 0);
        x.sets(0, 2, 1);
        law(x, "turn 0 3");
        x.days(0, 1);
        due(14, "a broken one turns, too", x.mirrors(0, 2), 3);
    }

    private static void readers() {
        OneSunbeam x = plain();
        x.mirror(3, 1, 2, 0, 0, 0, 0);
        x.rock(2, 2, 2, 2, true);
        due(17, "rock", x.cell(2, 2, 0), 1);
        due(17, "no rock", x.cell(3, 1, 0), 0);
        due(17, "no eyes", x.cell(2, 2, 1), NONE);
        due(17, "mirror", x.cell(3, 1, 2), 0);
        due(17, "no mirror", x.cell(2, 2, 2), NONE);
        x.sets(0, 2, 1);
        due(15, "broken", x.mirrors(0, 8), 1);
        due(17, "a broken one is there", x.cell(3, 1, 2), 0);
    }

    private static void gets() {
        OneSunbeam x = new OneSunbeam();
        x.town(8, 6, 0, 1, 10);
        x.sun(0, 0, 0, 1000);
        x.yard(1, 1, 2, 1, 333, 0);
        x.yard(2, 0, 3, 2, 500, 0);
        // 1000 - 10; 990 - 9 = 981, takes 326; 655 - 6 = 649, takes 216; 433 - 4 = 429, takes 214; 215 - 2 ...
        due(18, "the first yard that has it", x.gets(0, 0), 326 + 216);
        due(18, "the other", x.gets(0, 1), 214);
        due(18, "no such yard", x.gets(0, 2), NONE);
        due(18, "no such yard", x.gets(0, -1), NONE);
        due(18, "no such hour", x.gets(24, 0), NONE);
        due(18, "no such hour", x.gets(-1, 0), NONE);
        due(18, "a dark hour", x.gets(1, 0), NONE);
        due(19, "all", x.light(0, 0), 756);
        x.month(1);
        due(18, "a dark month", x.gets(0, 0), NONE);
        x.sun(1, 0, 0, 1000);
        x.month(0);
        due(18, "no hour of the next month", x.gets(24, 0), NONE);
        x.month(11);
        due(18, "no hour behind the last month", x.gets(24, 0), NONE);
        due(18, "no hour ahead of the first", x.gets(-1, 0), NONE);
    }

    private static void light() {
        OneSunbeam x = plain();
        x.mirror(2, 1, 2, 100, 250, 0, 0);
        x.mirror(5, 1, 7, 0, 0, 0, 0);
        x.sets(0, 1, 50);
        // 1000: 150 lost; 850: 212 through, 638 down and out; 212 meet slant 7 by way 0: by 7, to (6, 0), out.
        due(19, "lost", x.light(0, 1), 150);
        due(19, "spilt", x.light(0, 2), 850);
        due(19, "cells", x.light(0, 3), 3 + 5 + 3 + 2);
        due(19, "beams", x.light(0, 4), 2);
        due(19, "got", x.light(0, 0), 0);
        x.eyes(6, 0, 211);
        x.eyes(2, 5, 637);
        x.eyes(3, 1, 212);
        due(19, "blind", x.light(0, 5), 2);
        due(19, "first blind", x.light(0, 6), 6);
        x.eyes(6, 0, 212);
        due(19, "first blind", x.light(0, 6), 24 * 5 + 2);
        x.eyes(2, 5, NONE);
        due(19, "no blind", x.light(0, 5), 0);
        due(19, "no first", x.light(0, 6), -2);
        due(19, "no such what", x.light(0, 7), NONE);
        due(19, "no such what", x.light(0, -1), NONE);
        due(19, "no such hour", x.light(24, 0), NONE);
        x.sets(0, 1, 1000);
        due(19, "loss and dust, 1000 at most", x.light(0, 1), 1000);
        due(19, "a beam of 0 comes no further", x.light(0, 3), 3);
        x.sun(0, 1, 0, 0);
        due(19, "no light comes into no cell", x.light(1, 3), 0);
        due(19, "a beam all the same", x.light(1, 4), 1);
        x.rock(0, 1, 0, 1, true);
        due(19, "rock in the gap", x.light(0, 2), 1000);
        due(19, "it is counted", x.light(0, 3), 1);
    }

    private static void limits() {
        OneSunbeam x = new OneSunbeam();
        x.town(4, 4, 1, 1, 0);
        x.sun(0, 0, 0, 99999);
        x.mirror(0, 1, 4, 0, 0, 0, 0);
        x.mirror(3, 1, 4, 0, 0, 0, 0);
        due(19, "2000 cells", x.light(0, 3), 2000);
        due(19, "then it is spilt", x.light(0, 2), 99999);
        x.town(4, 4, 1, 1, 0);
        x.sun(0, 0, 0, 99999);
        x.mirror(0, 1, 4, 0, 1, 0, 0);
        x.mirror(3, 1, 4, 0, 0, 0, 0);
        // Each sixth cell is mirror 0; 99 is the first that is let through, downwards 0 is not reached in 2000 cells.
        due(19, "60 wait, no more", x.light(0, 4), 61);
        due(19, "nothing is gone", x.light(0, 1) + x.light(0, 2) + x.light(0, 0), 99999);
        x.rock(2, 3, 2, 3, true);
        due(19, "cells in all", x.light(0, 3), 2000);
    }

    private static void passes() {
        OneSunbeam x = new OneSunbeam();
        x.town(8, 6, 0, 1, 100);
        x.sun(0, 0, 0, 1000);
        x.yard(1, 1, 1, 1, 1000, 0);
        due(20, "the gap, behind the air", x.passes(0, 0, 1), 900);
        due(20, "behind the air, not the yard", x.passes(0, 1, 1), 810);
        due(20, "nothing goes on", x.passes(0, 2, 1), 0);
        due(20, "elsewhere", x.passes(0, 7, 5), 0);
        due(20, "out", x.passes(0, 8, 5), NONE);
        due(20, "out", x.passes(0, 0, -1), NONE);
        due(20, "dark", x.passes(1, 0, 1), NONE);
        due(20, "no such hour", x.passes(24, 0, 1), NONE);
        OneSunbeam y = plain();
        y.mirror(4, 1, 4, 500, 0, 0, 0);
        due(20, "of two the most", y.passes(0, 2, 1), 1000);
        due(20, "once", y.passes(0, 4, 1), 1000);
        y.sets(0, 0, 2);
        y.rock(4, 2, 4, 2, true);
        due(20, "rock", y.passes(0, 4, 2), 0);
    }

    private static void sees() {
        OneSunbeam x = plain();
        x.mirror(3, 1, 7, 0, 0, 0, 0);
        x.mirror(6, 1, 0, 0, 0, 0, 0);
        x.yard(4, 0, 4, 0, 500, 0);
        x.yard(5, 5, 5, 5, 500, 0);
        x.yard(4, 1, 4, 1, 500, 0);
        // By way 0 slant 7 goes right and up, through yard a; slant 0 straight on, through yard c.
        due(21, "sees", x.sees(0, 0), 0b101);
        due(21, "it does not come there", x.sees(0, 1), 0);
        due(21, "slant stays", x.mirrors(0, 2), 7);
        due(21, "no such mirror", x.sees(0, 2), NONE);
        due(21, "no such mirror", x.sees(0, -1), NONE);
        due(21, "dark", x.sees(1, 0), NONE);
        due(21, "no such hour", x.sees(-1, 0), NONE);
        x.sets(0, 2, 1);
        due(21, "broken", x.sees(0, 0), 0);
    }

    private static void worth() {
        OneSunbeam x = plain();
        x.mirror(3, 1, 2, 0, 250, 0, 4);
        x.mirror(6, 1, 2, 0, 0, 0, 4);
        x.mirror(0, 0, 2, 0, 0, 0, 5);
        x.yard(3, 4, 3, 4, 1000, 0);
        x.yard(6, 4, 6, 4, 500, 0);
        x.yard(7, 1, 7, 1, 1000, 0);
        // Now 750 and 125; without 0: 500; without 1: 750 and 250; without both: 1000.
        due(22, "worth", x.worth(0, 0), 875 - 500);
        due(22, "worth below 0", x.worth(0, 1), 875 - 1000);
        due(22, "of no use", x.worth(0, 2), 0);
        due(23, "owned", x.owned(0, 4), 875 - 1000);
        due(23, "owned", x.owned(0, 5), 0);
        due(23, "owner of none", x.owned(0, 9), 0);
        due(22, "no such mirror", x.worth(0, 3), -1000000);
        due(22, "dark", x.worth(1, 0), -1000000);
        due(22, "no such hour", x.worth(24, 0), -1000000);
        due(23, "no such owner", x.owned(0, 10), -1000000);
        due(23, "no such owner", x.owned(0, -1), -1000000);
        due(23, "dark", x.owned(1, 4), -1000000);
        x.sets(0, 2, 1);
        due(22, "broken already", x.worth(0, 0), 0);
        x.owned(0, 4);
        due(23, "broken stays", x.mirrors(0, 8), 1);
        due(23, "whole stays", x.mirrors(1, 8), 0);
    }

    private static void aim() {
        OneSunbeam x = plain();
        x.mirror(3, 1, 5, 0, 0, 0, 0);
        x.mirror(3, 4, 5, 0, 0, 0, 0);
        x.mirror(7, 0, 6, 0, 0, 0, 0);
        x.yard(7, 4, 7, 4, 600, 0);
        x.yard(3, 3, 3, 3, 100, 0);
        // Mirror 0 down by slant 2, past yard b (100), mirror 1 by way 2 to the right: slant 2. 900 * 0.6.
        due(24, "most", x.aim(0, 0, 0b011, -1), 540);
        due(24, "first slant", x.aim(0, 0, 0b011, 0), 2);
        due(24, "second slant", x.aim(0, 0, 0b011, 1), 2);
        // As much comes round by mirror 2: mirror 1 right and up by slant 1, mirror 2 down by slant 1; 1 is before 2.
        due(24, "of three, as much", x.aim(0, 0, 0b111, -1), 540);
        due(24, "of alike ones the first", x.aim(0, 0, 0b111, 0), 2);
        due(24, "of alike ones the first", x.aim(0, 0, 0b111, 1), 1);
        due(24, "of alike ones the first", x.aim(0, 0, 0b111, 2), 1);
        due(24, "by one alone", x.aim(0, 0, 0b001, -1), 0);
        due(24, "of alike ones the first", x.aim(0, 0, 0b001, 0), 0);
        due(24, "slants stay", x.mirrors(0, 2), 5);
        due(24, "slants stay", x.mirrors(2, 2), 6);
        due(24, "no such place", x.aim(0, 0, 0b011, 2), NONE);
        due(24, "no such place", x.aim(0, 0, 0b011, -2), NONE);
        due(24, "no set", x.aim(0, 0, 0, -1), NONE);
        due(24, "no such mirror", x.aim(0, 0, 0b1000, -1), NONE);
        due(24, "below", x.aim(0, 0, Integer.MIN_VALUE | 1, -1), NONE);
        due(24, "no such yard", x.aim(0, 2, 1, -1), NONE);
        due(24, "dark", x.aim(1, 0, 1, -1), NONE);
        for (int i = 0; i < 3; i++) x.mirror(i, 5, 0, 0, 0, 0, 0);
        due(24, "four", x.aim(0, 0, 0b100111, 3), 0);
        due(24, "four", x.aim(0, 0, 0b100011 | 8, -1), 540);
        due(24, "five", x.aim(0, 0, 0b011111, -1), NONE);
    }

    private static void fair() {
        OneSunbeam x = plain();
        x.mirror(3, 1, 0, 0, 400, 0, 0);
        due(25, "no yards", x.fair(0, 1, -1), NONE);
        x.yard(3, 3, 3, 3, 1000, 5);
        x.yard(5, 1, 5, 1, 1000, 5);
        x.yard(0, 5, 0, 5, 1000, 0);
        due(25, "most for the least", x.fair(0, 1, -1), 400);
        due(25, "slant", x.fair(0, 1, 0), 2);
        due(25, "no such place", x.fair(0, 1, 1), NONE);
        due(25, "no such mirror", x.fair(0, 2, -1), NONE);
        due(25, "dark", x.fair(1, 1, -1), NONE);
        OneSunbeam y = plain();
        y.mirror(3, 1, 5, 0, 400, 0, 0);
        y.yard(3, 3, 3, 3, 1000, 0);
        y.yard(5, 1, 5, 1, 1000, 0);
        due(25, "none wants: of all", y.fair(0, 1, -1), 400);
        due(25, "none wants: slant", y.fair(0, 1, 0), 2);
        y.yard(0, 5, 0, 5, 1000, 0);
        due(25, "one gets nothing", y.fair(0, 1, -1), 0);
        due(25, "the first slant then", y.fair(0, 1, 0), 0);
        due(25, "slant stays", y.mirrors(0, 2), 5);
    }

    private static void mends() {
        OneSunbeam x = plain();
        x.mirror(2, 1, 2, 0, 0, 0, 0);
        x.mirror(5, 1, 7, 0, 0, 0, 0);
        x.mirror(5, 4, 7, 0, 0, 0, 0);
        x.yard(2, 4, 2, 4, 501, 0);
        x.rock(3, 3, 3, 3, true);
        // Yard a gets 501 by mirror 0, half is 250. Without it: mirror 1 down (2), mirror 2 by way 2 to the left (6).
        due(26, "two", x.mends(0, 0, 0), 2);
        due(26, "the first", x.mends(0, 0, 1), 1);
        due(26, "its slant", x.mends(0, 0, 2), 2);
        due(26, "the other", x.mends(0, 0, 3), 2);
        due(26, "its slant", x.mends(0, 0, 4), 6);
        due(26, "none is needed", x.mends(0, 2, 0), 0);
        due(26, "no mirror then", x.mends(0, 2, 1), -2);
        x.sets(2, 0, 6);
        due(26, "one", x.mends(0, 0, 0), 1);
        due(26, "the one", x.mends(0, 0, 1), 1);
        due(26, "its slant", x.mends(0, 0, 2), 2);
        due(26, "no other", x.mends(0, 0, 3), -2);
        due(26, "no other", x.mends(0, 0, 4), -2);
        x.sets(2, 1, 498);
        due(26, "502 * 501, 251: enough", x.mends(0, 0, 0), 1);
        x.sets(2, 1, 500);
        due(26, "500 * 501, 250: just half", x.mends(0, 0, 0), 1);
        x.sets(2, 1, 502);
        due(26, "249: less", x.mends(0, 0, 0), -2);
        due(26, "it can't be", x.mends(0, 0, 3), -2);
        x.sets(2, 1, 0);
        x.sets(2, 2, 1);
        due(26, "a broken one mends nothing", x.mends(0, 0, 0), -2);
        due(26, "whole again", x.mirrors(0, 8), 0);
        due(26, "slant stays", x.mirrors(1, 2), 7);
        x.sets(0, 2, 1);
        due(26, "broken already", x.mends(0, 0, 0), 0);
        due(26, "broken stays", x.mirrors(0, 8), 1);
        due(26, "no such what", x.mends(0, 0, 5), NONE);
        due(26, "no such what", x.mends(0, 0, -1), NONE);
        due(26, "no such mirror", x.mends(0, 3, 0), NONE);
        due(26, "dark", x.mends(1, 0, 0), NONE);
        mendsByTwo();
    }

    /** The first of all pairs and slants: mirrors 0 and 1, both to slant 0. */
    private static void mendsByTwo() {
        OneSunbeam x = new OneSunbeam();
        x.town(8, 6, 0, 0, 0);
        x.sun(0, 0, 1, 1000);
        x.mirror(2, 2, 3, 0, 0, 0, 0);
        x.mirror(4, 0, 3, 0, 0, 0, 0);
        x.mirror(1, 1, 1, 0, 0, 0, 0);
        x.rock(4, 2, 4, 2, true);
        x.yard(6, 1, 6, 2, 1000, 0);
        int[] want = {2, 0, 0, 1, 0};
        for (int what = 0; what < 5; what++) due(26, "two, what " + what, x.mends(0, 2, what), want[what]);
        x.rock(4, 2, 4, 2, false);
        int[] wantOne = {1, 0, 1, -2, -2};
        for (int what = 0; what < 5; what++) due(26, "one, what " + what, x.mends(0, 2, what), wantOne[what]);
    }

    private static void second() {
        OneSunbeam x = plain();
        x.yard(3, 2, 3, 2, 300, 0);
        x.yard(0, 0, 0, 0, 200, 0);
        // From (0, 0) a takes 200 and no way meets b; from (3, 0) straight down b takes 300; (1, 0), way 1 comes first.
        due(27, "cell", x.second(0, 0), 1);
        due(27, "way", x.second(0, 1), 1);
        due(27, "all get", x.second(0, 2), 300);
        due(27, "the gap stays", x.light(0, 0), 0);
        x.yard(0, 5, 0, 5, 1000, 0);
        due(27, "from the corner it begins in a yard", x.second(0, 2), 1000);
        due(27, "from above along the edge", x.second(0, 0), 0);
        due(27, "by way 2", x.second(0, 1), 2);
        x.rock(0, 0, 7, 5, true);
        due(27, "none", x.second(0, 0), -2);
        due(27, "none", x.second(0, 1), -2);
        due(27, "none", x.second(0, 2), -2);
        x.rock(0, 1, 0, 1, false);
        due(27, "the gap does not count", x.second(0, 0), -2);
        x.rock(7, 5, 7, 5, false);
        due(27, "rock all around", x.second(0, 0), 24 * 5 + 7);
        due(27, "the first way into the town", x.second(0, 1), 4);
        due(27, "nobody gets", x.second(0, 2), 0);
        due(27, "no such what", x.second(0, 3), NONE);
        due(27, "no such what", x.second(0, -1), NONE);
        due(27, "dark", x.second(1, 0), NONE);
        due(27, "no such hour", x.second(24, 0), NONE);
    }

    private static void thief() {
        OneSunbeam x = plain();
        x.mirror(3, 1, 2, 0, 100, 0, 0);
        x.mirror(3, 4, 2, 500, 0, 0, 0);
        x.mirror(6, 4, 2, 0, 0, 0, 0);
        x.mirror(6, 1, 2, 0, 0, 0, 0);
        x.yard(6, 4, 6, 4, 1, 0);
        // 1000 to 0, 900 down to 1, 450 to the right to 2; mirror 3 is lit by another beam alone.
        due(28, "no readings", x.thief(0, 0), -2);
        due(28, "nothing is missing", x.thief(0, 1), 0);
        due(28, "nothing to explain", x.thief(0, 2), 0);
        x.sets(0, 3, 2000);
        x.sets(3, 3, 1);
        due(28, "more is no theft, nor another beam", x.thief(0, 0), -2);
        x.sets(2, 3, 350);
        due(28, "the thief", x.thief(0, 0), 2);
        due(28, "missing", x.thief(0, 1), 100);
        due(28, "explains", x.thief(0, 2), 1);
        x.sets(1, 3, 700);
        due(28, "the first", x.thief(0, 0), 1);
        due(28, "missing", x.thief(0, 1), 200);
        due(28, "350 would come", x.thief(0, 2), 1);
        x.sets(2, 3, 351);
        due(28, "not so", x.thief(0, 2), 0);
        x.sets(2, 3, NONE);
        due(28, "no reading behind it", x.thief(0, 2), 1);
        x.sets(1, 3, 0);
        x.sets(2, 3, 0);
        due(28, "the beam would not come so far", x.thief(0, 2), 1);
        x.sets(2, 3, 1);
        due(28, "nor one", x.thief(0, 2), 0);
        x.sets(1, 2, 1);
        due(28, "a broken one is not met", x.thief(0, 0), -2);
        due(28, "no such what", x.thief(0, 3), NONE);
        due(28, "no such what", x.thief(0, -1), NONE);
        due(28, "dark", x.thief(1, 0), NONE);
        OneSunbeam y = plain();
        y.mirror(4, 1, 4, 100, 0, 0, 0);
        y.mirror(1, 1, 4, 100, 0, 0, 0);
        y.sets(0, 3, 1000);
        // Mirror 1 by way 0 first: it sends all back out by the gap.
        due(28, "it never comes to 0", y.thief(0, 0), -2);
        y.sets(1, 0, 0);
        y.sets(1, 3, 899);
        // Slant 0 by way 0 goes straight on: 1000 to 1 (899 read), 900 would be 809 (899 - 89 = 810) at 0, but 1000 is read.
        due(28, "the first time alone", y.thief(0, 0), 1);
        due(28, "missing", y.thief(0, 1), 101);
        due(28, "not explained", y.thief(0, 2), 0);
        y.sets(0, 3, 810);
        due(28, "explained", y.thief(0, 2), 1);
    }

    private static int dustyOne() {
        OneSunbeam x = plain();
        x.mirror(3, 1, 2, 0, 0, 0, 0);
        x.yard(3, 3, 3, 3, 1000, 0);
        return x.dusty(0, 0, 0, 999);
    }

    private static void dusty() {
        OneSunbeam x = plain();
        x.mirror(3, 1, 2, 200, 0, 0, 0);
        x.mirror(0, 0, 2, 0, 0, 0, 0);
        x.yard(3, 3, 3, 3, 1000, 0);
        x.yard(2, 1, 2, 1, 100, 0);
        x.sets(0, 1, 7);
        // Yard b takes 100 first; 900 come to the mirror.
        due(29, "none is needed", x.dusty(0, 0, 0, 720), 0);
        due(29, "one is enough", dustyOne(), 1);
        due(29, "201 thousandths take no more, 202 do", x.dusty(0, 0, 0, 719), 2);
        due(29, "all", x.dusty(0, 0, 0, 0), 800);
        due(29, "one is left of 900 at 999 thousandths", x.dusty(0, 0, 0, 1), 799);
        due(29, "it does not hang on it", x.dusty(0, 0, 1, 99), -2);
        due(29, "nor does it here", x.dusty(0, 1, 0, 100), -2);
        due(29, "enough without", x.dusty(0, 1, 1, 100), 0);
        due(29, "light at its most", x.dusty(0, 0, 0, 9999999), 0);
        due(29, "dust stays", x.mirrors(0, 7), 7);
        due(29, "too much", x.dusty(0, 0, 0, 10000000), NONE);
        due(29, "below", x.dusty(0, 0, 0, -1), NONE);
        due(29, "no such mirror", x.dusty(0, 2, 0, 1), NONE);
        due(29, "no such yard", x.dusty(0, 0, 2, 1), NONE);
        due(29, "dark", x.dusty(1, 0, 0, 1), NONE);
        x.sets(0, 2, 1);
        due(29, "broken", x.dusty(0, 0, 0, 0), 0);
    }

    /** Beams that the limits cut: each dust is tried by calls of the face. */
    private static void dustyByTrying() {
        OneSunbeam x = new OneSunbeam();
        x.town(4, 4, 1, 1, 0);
        x.sun(0, 0, 0, 99999);
        x.mirror(0, 1, 4, 0, 3, 0, 0);
        x.mirror(3, 1, 4, 0, 2, 0, 0);
        x.mirror(2, 1, 4, 0, 970, 0, 0);
        x.yard(1, 0, 1, 3, 2, 0);
        due(29, "the limit of cells is met", x.light(0, 3), 2000);
        int most = x.gets(0, 0);
        for (int light = most - 1; light > 0; light -= most / 7) {
            int least = 0;
            while (x.sets(0, 1, least) != -2 && x.gets(0, 0) > light) least++;
            x.sets(0, 1, 0);
            due(29, "no more than " + light, x.dusty(0, 0, 0, light), least > 1000 ? -2 : least);
        }
    }

    private static void dark() {
        OneSunbeam x = plain();
        x.sun(3, 7, 0, 400);
        x.sun(4, 8, 0, 401);
        x.sun(11, 9, 0, 5000);
        x.mirror(2, 1, 0, 0, 0, 4, 0);
        x.yard(5, 1, 5, 1, 1000, 0);
        law(x, "turn 0 2 if month = 11");
        due(30, "below 401", x.dark(0, 0, 401), 4095 & ~(1 << 0) & ~(1 << 4));
        due(30, "below 400", x.dark(0, 0, 400), 4095 & ~(1 << 0) & ~(1 << 3) & ~(1 << 4));
        due(30, "below 0", x.dark(0, 0, 0), 0);
        due(30, "a high bound", x.dark(0, 0, Integer.MAX_VALUE), 4095);
        due(30, "NONE is no bound", x.dark(0, 0, NONE), NONE);
        due(30, "no such bound", x.dark(0, 0, -2), NONE);
        due(30, "no such bound", x.dark(0, 0, Integer.MIN_VALUE), NONE);
        due(30, "no such law", x.dark(1, 0, 1), NONE);
        due(30, "no such law", x.dark(-1, 0, 1), NONE);
        due(30, "no such yard", x.dark(0, 1, 1), NONE);
        due(30, "no such yard", x.dark(0, -1, 1), NONE);
        due(30, "nothing happened: day", x.count(5), 0);
        due(30, "nothing happened: slant", x.mirrors(0, 2), 0);
        due(30, "nothing happened: month", x.count(4), 0);
        due(30, "nothing happened: light", x.yards(0, 0), 0);
    }

    private static void ahead() {
        OneSunbeam x = plain();
        x.sun(0, 1, 0, 100);
        x.mirror(2, 1, 0, 0, 0, 4, 0);
        x.yard(5, 1, 5, 1, 1000, 1000);
        x.yard(0, 5, 0, 5, 1, 0);
        x.eyes(4, 1, 90);
        x.eyes(3, 1, 1000);
        x.falls(50);
        law(x, "turn 0 0");
        due(31, "met of a day", x.ahead(0, 1, -2), 2);
        due(31, "light of a day", x.ahead(0, 1, 0), 1100);
        due(31, "light of the other", x.ahead(0, 1, 1), 0);
        due(31, "met of three", x.ahead(0, 3, -2), 1);
        due(31, "light of three", x.ahead(0, 3, 0), 900 + 90);
        due(31, "blind hours", x.ahead(0, 1, -1), 2);
        due(31, "blind hours of three", x.ahead(0, 3, -1), 2 + 2 + 1);
        due(31, "ten", x.ahead(0, 10, 0), 550 + 55);
        due(31, "eleven", x.ahead(0, 11, 0), -3);
        due(31, "none", x.ahead(0, 0, 0), -3);
        due(31, "no such yard", x.ahead(0, 1, 2), -3);
        due(31, "no such what", x.ahead(0, 1, -3), -3);
        due(31, "no such law", x.ahead(1, 1, -2), -3);
        due(31, "no such law", x.ahead(-1, 1, -2), -3);
        due(31, "nothing happened: day", x.count(5), 0);
        due(31, "nothing happened: dust", x.mirrors(0, 7), 0);
        due(31, "nothing happened: light", x.yards(0, 0), 0);
    }

    private static void count() {
        OneSunbeam x = plain();
        x.mirror(3, 1, 0, 0, 0, 0, 0);
        x.yard(0, 0, 0, 0, 1, 0);
        x.yard(0, 0, 0, 0, 1, 1);
        x.month(7);
        x.falls(3);
        law(x, "turn 0 0");
        x.days(0, 4);
        x.feed(0, 0, 0, 0, 0);
        int[] whats = {8, 6, 1, 2, 7, 4, 1, 3, 1, 20, NONE};
        for (int what = 0; what < whats.length; what++) due(32, "count " + what, x.count(what), whats[what]);
        due(32, "below", x.count(-1), NONE);
    }

    private static void images() {
        OneSunbeam x = plain();
        x.mirror(3, 1, 2, 0, 0, 4, 0);
        x.yard(3, 3, 3, 3, 500, 400);
        x.eyes(3, 2, 9);
        x.falls(5);
        law(x, "turn 0 2");
        x.days(0, 2);
        due(33, "image", x.image(3), 2);
        due(33, "no such image", x.image(4), NONE);
        due(33, "no such image", x.image(-1), NONE);
        x.days(0, 1);
        due(33, "another", x.image(0), 3);
        x.rock(0, 0, 7, 5, true);
        x.eyes(3, 2, 4);
        x.month(9);
        x.falls(6);
        x.sun(0, 0, NONE, 0);
        x.sets(0, 0, 1);
        x.yard(0, 0, 0, 0, 1, 0);
        x.mirror(0, 0, 0, 0, 0, 0, 0);
        law(x, "turn 0 7");
        x.feed(0, 0, 0, 0, 0);
        due(34, "never made", x.back(1), NONE);
        due(34, "nothing happened", x.count(4), 9);
        due(34, "no such image", x.back(4), NONE);
        due(34, "no such image", x.back(-1), NONE);
        due(34, "back", x.back(3), 2);
        int[] whats = {8, 6, 1, 1, 0, 2, 1, 5, 2, 20};
        for (int what = 0; what < whats.length; what++) due(34, "count " + what, x.count(what), whats[what]);
        due(34, "rock", x.cell(0, 0, 0), 0);
        due(34, "eyes", x.cell(3, 2, 1), 9);
        due(34, "slant", x.mirrors(0, 2), 2);
        due(34, "dust", x.mirrors(0, 7), 10);
        due(34, "light", x.yards(0, 0), 497);
        due(34, "no mirror", x.cell(0, 0, 2), NONE);
        due(34, "no yard", x.cell(0, 0, 3), NONE);
        due(34, "sun", x.gets(0, 0), 495);
        x.sets(0, 0, 5);
        due(34, "an image is no window", x.back(3), 2);
        due(34, "slant", x.mirrors(0, 2), 2);
        due(34, "the other image", x.back(0), 3);
        due(34, "another town", x.town(4, 4, 0, 0, 0), true);
        due(34, "images stay", x.back(3), 2);
        due(34, "the old town", x.count(0), 8);
    }
}
