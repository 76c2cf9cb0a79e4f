/** The boundary cases of the tape and of a law's text: Terms II and promises 11 to 13. */
public final class LawBoundsTest {
    private static final int NONE = OneSunbeam.NONE;
    private static final int LEAST = Integer.MIN_VALUE;
    private static final int MOST = Integer.MAX_VALUE;

    public static void main(String[] arguments) {
        feed();
        feedOrder();
        end();
        lawEmptiesTheTape();
        oneBehindAnother();
        lawsAreFull();
        bytesOfALaw();
        clauses();
        clauseSigns();
        mirrorNumber();
        digits();
        digitsGoOn();
        words();
        lettersGoOn();
        blanks();
        sums();
        tests();
        depth();
        depthOfEach();
        valuesAndFacts();
        valuesOfTheWholeLaw();
        faultOfTheEnd();
        firstAlongTheText();
        ofOnePlaceTheLeast();
        Bounds.end();
    }

    private static void fault(String text, int place, int kind) {
        OneSunbeam x = new OneSunbeam();
        Bounds.due("law of '" + text + "'", Bounds.law(x, text), -2 - (1 + 8 * place + kind));
        Bounds.due("no law by '" + text + "'", x.count(8), 0);
        Bounds.due("the tape is empty behind '" + text + "'", x.count(9), 0);
    }

    private static void right(String text) {
        OneSunbeam x = new OneSunbeam();
        Bounds.due("law of '" + text + "'", Bounds.law(x, text), 0);
        Bounds.due("a law by '" + text + "'", x.count(8), 1);
        Bounds.due("the tape is empty behind '" + text + "'", x.count(9), 0);
    }

    private static OneSunbeam tapeOf(int bytes) {
        OneSunbeam x = Bounds.busy();
        x.end(0);
        for (int i = 0; i < 20; i++) x.feed(0x7475726e, 0x20302037, 0x20202020, 0x20202020, 0x20202020);
        x.end(bytes);
        return x;
    }

    private static void feed() {
        Bounds.by("how many it has; NONE, and none comes, if it would have more than 400");
        OneSunbeam x = new OneSunbeam();
        for (int i = 1; i <= 20; i++) Bounds.due("feed", x.feed(1, 2, 3, 4, 5), 20 * i);
        Bounds.due("bytes", x.count(9), 400);
        Bounds.refused(() -> tapeOf(400), "420", NONE, tape -> tape.feed(0, 0, 0, 0, 0));
        Bounds.refused(() -> tapeOf(381), "401", NONE, tape -> tape.feed(0, 0, 0, 0, 0));
        OneSunbeam y = tapeOf(380);
        Bounds.due("400", y.feed(0, 0, 0, 0, 0), 400);
        Bounds.due("bytes", y.count(9), 400);
        Bounds.due("the least and the greatest", new OneSunbeam().feed(LEAST, MOST, -1, 0, 1), 20);
    }

    private static void feedOrder() {
        Bounds.by("Twenty bytes come behind the TAPE, of each number the highest first");
        OneSunbeam x = new OneSunbeam();
        x.feed(0x7475726e, 0x20302068, 0x6f757220, 0x2b206d6f, 0x6e746820);
        x.feed(0x2a207365, 0x65202020, 0, 0, 0);
        Bounds.due("'turn 0 hour + month * see'", x.law(), -2 - (1 + 8 * 22));
        for (int place = 0; place < 20; place++) {
            OneSunbeam y = new OneSunbeam();
            int[] five = {0x20202020, 0x20202020, 0x20202020, 0x20202020, 0x20202020};
            five[place / 4] |= 0xdf << 24 - 8 * (place % 4);
            y.feed(five[0], five[1], five[2], five[3], five[4]);
            Bounds.due("byte " + place + " is 255", y.law(), -2 - (1 + 8 * place));
        }
    }

    private static void end() {
        Bounds.by("The TAPE has its first n bytes alone: n; NONE, and nothing happens, if it has not so many, or n is below 0");
        OneSunbeam x = tapeOf(400);
        Bounds.due("all", x.end(400), 400);
        Bounds.due("one less", x.end(399), 399);
        Bounds.due("bytes", x.count(9), 399);
        Bounds.due("not so many now", x.end(400), NONE);
        Bounds.due("none", x.end(0), 0);
        Bounds.due("bytes", x.count(9), 0);
        Bounds.due("none of none", x.end(0), 0);
        Bounds.due("one of none", x.end(1), NONE);
        Bounds.refused("9 of 8", NONE, tape -> tape.end(9));
        Bounds.refused("-1", NONE, tape -> tape.end(-1));
        Bounds.refused("the least", NONE, tape -> tape.end(LEAST));
        Bounds.refused("the greatest", NONE, tape -> tape.end(MOST));
        OneSunbeam y = new OneSunbeam();
        y.feed(0x7475726e, 0x20302031, 0x3b202020, 0, 0);
        y.end(8);
        Bounds.due("the first bytes alone", y.law(), 0);
    }

    private static void lawEmptiesTheTape() {
        Bounds.by("The TAPE, which is empty then, is a LAW: its number; -2 - its FAULT");
        OneSunbeam x = new OneSunbeam();
        Bounds.due("an empty text", x.law(), -3);
        Bounds.due("a law", Bounds.law(x, "turn 0 1"), 0);
        Bounds.due("empty then", x.count(9), 0);
        Bounds.due("an empty text again", x.law(), -3);
        Bounds.due("a fault", Bounds.law(x, "turn 0"), -2 - (1 + 8 * 6));
        Bounds.due("empty then, too", x.count(9), 0);
        Bounds.due("the next number", Bounds.law(x, "turn 0 1"), 1);
        OneSunbeam y = Bounds.plain();
        y.mirror(3, 3, 0, 0, 0, 4, 0);
        Bounds.law(y, "turn 0 1");
        Bounds.law(y, "turn 0 7 if a < ");
        Bounds.due("laws", y.count(8), 1);
        y.days(0, 1);
        Bounds.due("a law is not changed by a fault behind it", y.mirrors(0, 2), 1);
    }

    /** A text with a fault, or a law, and behind it on the same object a law that turns mirror 0 to this slant. */
    private static void behind(String before, String text, int slant) {
        OneSunbeam x = Bounds.plain();
        x.mirror(3, 3, 0, 0, 0, 4, 0);
        int made = Bounds.law(x, before) >= 0 ? 1 : 0;
        Bounds.due("'" + text + "' behind '" + before + "'", Bounds.law(x, text), made);
        x.days(made, 1);
        Bounds.due("slant by '" + text + "' behind '" + before + "'", x.mirrors(0, 2), slant);
    }

    private static void oneBehindAnother() {
        Bounds.by("The TAPE, which is empty then, is a LAW: of another text nothing is left");
        behind("turn 0 16", "turn 0 1", 1);
        behind("turn 0 hour", "turn 0 h", 0);
        behind("turn 0 ab", "turn 0 a", 0);
        behind("turn 0 1+", "turn 0 2", 2);
        behind("turn 0 1+2*", "turn 0 3", 3);
        behind("turn 0 1 if [[[a=1", "turn 0 4", 4);
        behind("turn 0 1 if not not not", "turn 0 5 if 1=1", 5);
        behind("turn 0 1 if " + "[".repeat(11), "turn 0 6 if " + "[".repeat(10) + "1=1" + "]".repeat(10), 6);
        behind("turn 0 1 if " + "not ".repeat(10), "turn 0 7 if " + "not ".repeat(10) + "1=1", 7);
        behind("turn 0 1" + "+1".repeat(60), "turn 0 1" + "+1".repeat(58), 3);
        behind("turn 0 1" + "+1".repeat(59), "turn 0 1" + "+1".repeat(59), 4);
        behind("turn 0 1;".repeat(12), "turn 0 2;".repeat(11) + "turn 0 2", 2);
        behind("turn 0 1;".repeat(11) + "turn 0 1", "turn 0 2;".repeat(11) + "turn 0 2", 2);
        behind("turn 0 1;turn 0 2;turn 0", "turn 0 3", 3);
        OneSunbeam x = new OneSunbeam();
        Bounds.law(x, "turn 0 1 if 1<=2");
        Bounds.due("its end is its end", Bounds.law(x, "turn 0 1 if 1<"), -2 - (1 + 8 * 14));
        Bounds.due("its end is its end", Bounds.law(x, "turn 0"), -2 - (1 + 8 * 6));
        Bounds.due("its end is its end", Bounds.law(x, "tur"), -2 - 1);
    }

    private static OneSunbeam sixLaws() {
        OneSunbeam x = Bounds.busy();
        for (int i = 2; i < 6; i++) Bounds.law(x, "turn 0 " + i);
        Bounds.feed(x, "turn 0 7");
        return x;
    }

    private static void lawsAreFull() {
        Bounds.by("LAWS 0 to 5: NONE, and nothing happens: there are 6");
        OneSunbeam x = new OneSunbeam();
        for (int i = 0; i < 6; i++) Bounds.due("law", Bounds.law(x, "turn 0 " + i), i);
        Bounds.due("laws", x.count(8), 6);
        Bounds.refused(LawBoundsTest::sixLaws, "a seventh", NONE, OneSunbeam::law);
        OneSunbeam y = sixLaws();
        y.end(4);
        Bounds.due("a seventh with a fault", y.law(), NONE);
        Bounds.due("the tape stays", y.count(9), 4);
        y.end(0);
        Bounds.due("an empty seventh", y.law(), NONE);
        for (int i = 2; i < 6; i++) {
            OneSunbeam z = sixLaws();
            z.days(i, 10);
            Bounds.due("law " + i + " is its own", z.mirrors(0, 2), i);
        }
    }

    private static void bytesOfALaw() {
        Bounds.by("texts of at most 400 bytes");
        right("turn 0 1" + " ".repeat(392));
        right(" ".repeat(392) + "turn 0 1");
        right("turn 0 1 " + ";" + " ".repeat(382) + "turn 1 2");
        fault(" ".repeat(400), 400, 0);
        fault("turn 0 1" + " ".repeat(391) + "x", 399, 0);
        fault("turn 0 1" + " ".repeat(391) + "+", 400, 0);
        fault("turn 0 " + "0".repeat(393), 7, 1);
        fault("a".repeat(400), 0, 0);
        right("turn 0 " + " ".repeat(388) + "month");
        fault("turn 0 " + " ".repeat(389) + "mont", 396, 0);
        right("turn 0 " + " ".repeat(388) + "99999");
        right("turn 0 1 if 2" + " ".repeat(384) + "<=3");
    }

    private static void clauses() {
        Bounds.by("CLAUSE { ; CLAUSE }, 12 at most; FAULT 4 a thirteenth CLAUSE (at its first byte)");
        String eleven = "turn 1 1;".repeat(11);
        right("turn 1 1");
        right(eleven + "turn 1 1");
        fault(eleven + "turn 1 1;", 108, 0);
        fault(eleven + "turn 1 1;turn 1 1", 108, 4);
        fault(eleven + "turn 1 1;turn", 108, 4);
        fault(eleven + "turn 1 1;   turn 99 1", 111, 4);
        fault(eleven + "turn 1 1;turned", 108, 0);
        fault(eleven + "turn 1 1; if", 109, 0);
        fault(eleven + "turn 1 1 turn", 108, 0);
    }

    private static void clauseSigns() {
        Bounds.by("turn NUMBER SUM [ if TEST ]: a byte or WORD that can't stand there");
        fault("turn", 4, 0);
        fault("turn 0", 6, 0);
        fault("turn 0 if", 7, 0);
        fault("turn 0 1 if", 11, 0);
        fault("turn 0 1;", 9, 0);
        fault(";turn 0 1", 0, 0);
        fault("turn 0 1;;turn 0 1", 9, 0);
        fault("turn turn", 5, 0);
        fault("turn a 1", 5, 0);
        fault("turn -1 1", 5, 0);
        fault("turn 0 1 if a=1 if a=1", 16, 0);
        fault("turn 0 1, turn 0 1", 8, 0);
        fault("if a=1", 0, 0);
        right("turn 0 1 if a=1;turn 0 1;turn 0 1 if b=1");
    }

    private static void mirrorNumber() {
        Bounds.by("turn NUMBER (a MIRROR: 0 to 23); FAULT 1 a NUMBER not as told");
        right("turn 0 1");
        right("turn 23 1");
        right("turn 00023 1");
        fault("turn 24 1", 5, 1);
        fault("turn 00024 1", 5, 1);
        fault("turn 99999 1", 5, 1);
        fault("turn 000023 1", 5, 1);
        fault("turn 0 1;turn 24", 14, 1);
    }

    private static void digits() {
        Bounds.by("NUMBER (1 to 5 digits); FAULT 1 a NUMBER of more digits");
        right("turn 0 0");
        right("turn 0 99999");
        right("turn 0 00000");
        fault("turn 0 100000", 7, 1);
        fault("turn 0 000000", 7, 1);
        fault("turn 0 1+123456", 9, 1);
        fault("turn 0 1 if 123456=1", 12, 1);
        fault("turn 0 1 if 1=123456", 14, 1);
        fault("turn 0 123456 x", 7, 1);
        fault("turn 0 99999999999999999999", 7, 1);
    }

    private static void digitsGoOn() {
        Bounds.by("as far as digits go on");
        right("turn 0 12345if 1=1");
        right("turn 0 1;turn 1 2");
        right("turn5 1");
        fault("turn 0 12 34", 10, 0);
        fault("turn 0 1a", 8, 0);
        fault("turn 0 12345a", 12, 0);
        fault("turn 01", 7, 0);
        // One before '0' and one behind '9'.
        fault("turn 0 /", 7, 0);
        fault("turn 0 :", 7, 0);
        fault("turn 0 1:", 8, 0);
        fault("turn 0 1/", 9, 0);
    }

    private static void words() {
        Bounds.by("WORDS: hour, month, day, slant, sun, a to h");
        for (String word : new String[] {"hour", "month", "day", "slant", "sun", "a", "b", "c", "d", "e", "f", "g", "h"}) {
            right("turn 0 " + word);
            fault("turn 0 " + word + " " + word, 8 + word.length(), 0);
            if (word.length() > 1) {
                fault("turn 0 " + word.substring(0, word.length() - 1), 7, 0);
                fault("turn 0 " + word.substring(1), 7, 0);
                fault("turn 0 " + word.substring(0, word.length() - 1) + "z", 7, 0);
                fault("turn 0 " + word.substring(0, 1).toUpperCase() + word.substring(1), 7, 0);
            }
            fault("turn 0 " + word + "s", 7, 0);
        }
        for (String other : new String[] {"i", "j", "z", "aa", "turn", "if", "or", "and", "not", "A", "H", "`", "{"}) {
            fault("turn 0 " + other, 7, 0);
        }
        for (String spoilt : new String[] {"tur", "turm", "urn", "tarn", "burn", "zurn", "turnn", "i"}) fault(spoilt + " 0 1", 0, 0);
        for (String spoilt : new String[] {"i", "of", "ifs", "in"}) fault("turn 0 1 " + spoilt + " a=1", 9, 0);
        for (String spoilt : new String[] {"an", "ant", "ands", "o", "ot", "ore"}) fault("turn 0 1 if a=1 " + spoilt + " a=1", 16, 0);
        for (String spoilt : new String[] {"no", "nor", "nots", "dot"}) fault("turn 0 1 if " + spoilt + " a=1", 12, 0);
    }

    private static void lettersGoOn() {
        Bounds.by("(small letters, as far as these go on)");
        right("turn 0 a+b");
        right("turn 0 hour*2");
        fault("turn 0 ab", 7, 0);
        fault("turn 0 hourmonth", 7, 0);
        fault("turn 0 1 if not[a=1]andb=1", 20, 0);
        fault("turn 0 1 ifa=1", 9, 0);
        right("turn 0 1 if[a=1]and[b=1]or[c=1]");
        right("turn 0 1if 1=1and 2=2or 3=3");
        // Just before 'a' and just behind 'z'; a digit ends a word.
        fault("turn 0 a`", 8, 0);
        fault("turn 0 a{", 8, 0);
        fault("turn 0 a1", 8, 0);
        fault("turn 0 aB", 8, 0);
        fault("turnz 0 1", 0, 0);
        fault("turn 0 az", 7, 0);
        fault("turn 0 za", 7, 0);
        fault("turn 0 hourz", 7, 0);
        fault("turna 0 1", 0, 0);
        // The letter behind h is no yard, and no other word.
        fault("turn 0 1 if i a=1", 12, 0);
        fault("turn 0 1 if a=1 i b=1", 16, 0);
        fault("turn 0 1+i", 9, 0);
    }

    private static void blanks() {
        Bounds.by("Blanks (32) stand between as one likes");
        right("turn 0 1");
        right("   turn   0   1   +   a   if   not   [   a   <=   b   ]   ;   turn 1 1   ");
        right("turn0 1if[a<=b];turn1 1");
        fault("tu rn 0 1", 0, 0);
        fault("turn 0 1 if a < = b", 16, 0);
        fault("turn 0 1 if a > = b", 16, 0);
        for (int other : new int[] {0, 9, 10, 13, 31, 33, 127, 128, 160, 255}) {
            fault("turn" + (char) other + "0 1", 4, 0);
            fault("turn 0 1" + (char) other, 8, 0);
            fault((char) other + "turn 0 1", 0, 0);
        }
    }

    private static void sums() {
        Bounds.by("SUM: TERM { (+ or -) TERM }. TERM: VALUE { (* or /) VALUE }");
        right("turn 0 1+2-3*4/5");
        fault("turn 0 +1", 7, 0);
        fault("turn 0 -1", 7, 0);
        fault("turn 0 *1", 7, 0);
        fault("turn 0 1++1", 9, 0);
        fault("turn 0 1+-1", 9, 0);
        fault("turn 0 1*/1", 9, 0);
        fault("turn 0 1+", 9, 0);
        fault("turn 0 1*;turn 0 1", 9, 0);
        fault("turn 0 1+if a=1", 9, 0);
        fault("turn 0 [1]", 7, 0);
        fault("turn 0 1]", 8, 0);
        fault("turn 0 1=1", 8, 0);
        fault("turn 0 1 and 1=1", 9, 0);
        fault("turn 0 1%2", 8, 0);
        fault("turn 0 1,2", 8, 0);
        fault("turn 0 1.2", 8, 0);
    }

    private static void tests() {
        Bounds.by("FACT: not FACT | [ TEST ] | SUM SIGN SUM, SIGN one of < <= = >= >");
        for (String sign : new String[] {"<", "<=", "=", ">=", ">"}) right("turn 0 1 if a" + sign + "b");
        fault("turn 0 1 if a", 13, 0);
        fault("turn 0 1 if a;", 13, 0);
        fault("turn 0 1 if a and b=1", 14, 0);
        fault("turn 0 1 if a or b=1", 14, 0);
        fault("turn 0 1 if [a]", 14, 0);
        fault("turn 0 1 if a=b=c", 15, 0);
        fault("turn 0 1 if a<b<c", 15, 0);
        fault("turn 0 1 if a==b", 14, 0);
        fault("turn 0 1 if a=<b", 14, 0);
        fault("turn 0 1 if a=>b", 14, 0);
        fault("turn 0 1 if a<>b", 14, 0);
        fault("turn 0 1 if a<==b", 15, 0);
        fault("turn 0 1 if a!=b", 13, 0);
        fault("turn 0 1 if =b", 12, 0);
        fault("turn 0 1 if a=", 14, 0);
        fault("turn 0 1 if a<", 14, 0);
        fault("turn 0 1 if a<=", 15, 0);
        fault("turn 0 1 if []", 13, 0);
        fault("turn 0 1 if [a=1", 16, 0);
        fault("turn 0 1 if [a=1;", 16, 0);
        fault("turn 0 1 if a=1]", 15, 0);
        fault("turn 0 1 if [a=1]]", 17, 0);
        fault("turn 0 1 if [a=1] b=1", 18, 0);
        fault("turn 0 1 if [a=1]=1", 17, 0);
        fault("turn 0 1 if [a=1]+1", 17, 0);
        fault("turn 0 1 if [a=1]*1=1", 17, 0);
        fault("turn 0 1 if [a=1][b=1]", 17, 0);
        fault("turn 0 1 if a=1 not b=1", 16, 0);
        fault("turn 0 1 if a not =1", 14, 0);
        fault("turn 0 1 if a=not 1", 14, 0);
        fault("turn 0 1 if a=[b]", 14, 0);
        fault("turn 0 1 if not", 15, 0);
        fault("turn 0 1 if not and", 16, 0);
        fault("turn 0 1 if and a=1", 12, 0);
        fault("turn 0 1 if or a=1", 12, 0);
        fault("turn 0 1 if a=1 and", 19, 0);
        fault("turn 0 1 if a=1 or;", 18, 0);
        fault("turn 0 1 if a=1 and or b=1", 20, 0);
        right("turn 0 1 if not a=1 and not not b=1 or [c=1 or d=1] and not [e=1 and f=1]");
    }

    private static void depth() {
        Bounds.by("[ and not lie within one another 10 deep at most; FAULT 2 too deep (at the sign that opens, or the word not)");
        String from = "turn 0 1 if ";
        right(from + "[".repeat(10) + "a=1" + "]".repeat(10));
        fault(from + "[".repeat(11) + "a=1" + "]".repeat(11), 22, 2);
        fault(from + "[".repeat(11), 22, 2);
        fault(from + "[".repeat(10), 22, 0);
        right(from + "not ".repeat(10) + "a=1");
        fault(from + "not ".repeat(11) + "a=1", 52, 2);
        right(from + "not[".repeat(5) + "a=1" + "]".repeat(5));
        fault(from + "not[".repeat(5) + "[a=1]" + "]".repeat(5), 32, 2);
        fault(from + "not[".repeat(5) + "not a=1" + "]".repeat(5), 32, 2);
        fault(from + "[".repeat(10) + "  not a=1", 24, 2);
        fault(from + "[".repeat(9) + "not [", 25, 2);
        right(from + "[".repeat(9) + "not a=1" + "]".repeat(9));
    }

    private static void depthOfEach() {
        Bounds.by("within one another");
        String from = "turn 0 1 if ";
        String ten = "[".repeat(10) + "a=1" + "]".repeat(10);
        String tenNots = "not ".repeat(10) + "a=1";
        right(from + ten + "and" + ten + "or" + ten);
        right(from + tenNots + " and " + tenNots + " or " + ten);
        right(from + "[" + "not ".repeat(9) + "a=1 and " + "not ".repeat(9) + "b=1]or " + tenNots);
        fault(from + "[" + "not ".repeat(9) + "a=1 and " + "not ".repeat(10) + "b=1]", 13 + 36 + 8 + 36, 2);
        right(from + "not[" + "[".repeat(8) + "a=1" + "]".repeat(8) + "]and" + ten);
        right(from + tenNots + ";turn 1 1 if " + ten);
        fault(from + tenNots + ";turn 1 1 if " + "[" + ten + "]", 12 + 43 + 13 + 10, 2);
        right(from + "not [a=1] and " + ten);
        fault(from + "[[a=1] and " + ten + "]", 12 + 11 + 9, 2);
    }

    private static void valuesAndFacts() {
        Bounds.by("at most 60 VALUES (of SUMS) and FACTS made of a SIGN, together; FAULT 3 one too many (at its first byte; of a FACT at its SIGN)");
        right("turn 0 1" + "+1".repeat(59));
        fault("turn 0 1" + "+1".repeat(60), 8 + 2 * 59 + 1, 3);
        fault("turn 0 1" + "+1".repeat(59) + "+  hour", 8 + 2 * 59 + 3, 3);
        right("turn 0 a" + "*a".repeat(56) + " if a<b");
        // One value less is left than the fact has: its last value, its sign, its first value is too many.
        fault("turn 0 a" + "*a".repeat(57) + " if a<b", 8 + 2 * 57 + 6, 3);
        fault("turn 0 a" + "*a".repeat(58) + " if a<b", 8 + 2 * 58 + 5, 3);
        fault("turn 0 a" + "*a".repeat(58) + " if a  <=b", 8 + 2 * 58 + 7, 3);
        fault("turn 0 a" + "*a".repeat(59) + " if a<b", 8 + 2 * 59 + 4, 3);
        right("turn 0 1 if 1=1" + " or 1=1".repeat(18));
        fault("turn 0 1 if 1=1" + " or 1=1".repeat(19), 15 + 7 * 18 + 6, 3);
        right("turn 0 1+1+1 if 1=1" + "or 1=1".repeat(18));
        fault("turn 0 1+1+1+1 if 1=1" + "or 1=1".repeat(18), 21 + 6 * 17 + 5, 3);
        // Brackets, nots and the number of a mirror are none of them.
        right("turn 0 1+1+1 if [not 1=1]" + "or[1=1]".repeat(18));
        fault("turn 0 1" + "+1".repeat(59) + "=1", 8 + 2 * 59, 0);
    }

    private static void valuesOfTheWholeLaw() {
        Bounds.by("at most 60 VALUES (of SUMS) and FACTS made of a SIGN, together, of a LAW");
        right("turn 0 1" + "+1".repeat(29) + ";turn 0 1" + "+1".repeat(29));
        fault("turn 0 1" + "+1".repeat(29) + ";turn 0 1" + "+1".repeat(30), 66 + 9 + 2 * 29 + 1, 3);
        fault("turn 0 1" + "+1".repeat(59) + ";turn 0 1", 8 + 2 * 59 + 8, 3);
        right("turn 0 1+1+1+1+1;".repeat(11) + "turn 0 1+1+1+1+1");
        fault("turn 0 1+1+1+1+1;".repeat(11) + "turn 0 1+1+1+1+1+1", 17 * 11 + 17, 3);
    }

    private static void faultOfTheEnd() {
        Bounds.by("0 .. or the end (behind the last byte)");
        fault("", 0, 0);
        fault(" ", 1, 0);
        fault("t", 0, 0);
        fault("turn ", 5, 0);
        fault("turn 0 ", 7, 0);
        fault("turn 0 1 if  ", 13, 0);
        fault("turn 0 1 if a=1 and  ", 21, 0);
        fault("turn 0 1 if [a=1  ", 18, 0);
        fault("turn 0 1;   ", 12, 0);
    }

    private static void firstAlongTheText() {
        Bounds.by("FAULTS, the first along the text");
        fault("turn 24 100000 x", 5, 1);
        fault("turn 0 100000 x", 7, 1);
        fault("turn 0 x 100000", 7, 0);
        fault("turn 0 1 if " + "[".repeat(11) + "100000", 22, 2);
        fault("turn 0 100000 if " + "[".repeat(11), 7, 1);
        fault("turn 0 1" + "+1".repeat(60) + " x", 127, 3);
        fault("turn 0 1 x" + "+1".repeat(60), 9, 0);
        fault("turn 1 1;".repeat(12) + "turn 24", 108, 4);
        fault("turn 1 1;".repeat(11) + "turn 24 1;turn", 104, 1);
    }

    private static void ofOnePlaceTheLeast() {
        Bounds.by("Of one place the least");
        String full = "turn 0 1" + "+1".repeat(59);
        fault(full + "+100000", 127, 1);
        fault(full + "+x", 127, 0);
        fault(full + "+", 127, 0);
        fault(full + "+[", 127, 0);
        fault("turn 0 1" + "+1".repeat(58) + " if a=", 8 + 116 + 5, 3);
        fault("turn 0 1" + "+1".repeat(57) + " if a=100000", 8 + 114 + 6, 1);
        fault("turn 0 1" + "+1".repeat(57) + " if a=x", 8 + 114 + 6, 0);
        fault("turn 1 1;".repeat(12) + "tarn", 108, 0);
        fault("turn 1 1;".repeat(12) + "1", 108, 0);
        fault("turn 0 1 if " + "[".repeat(10) + "x", 22, 0);
    }
}
