import java.util.Random;

/** Texts of laws, right ones and spoilt ones. */
final class LawTexts {
    private static final String[] WORDS = {"hour", "month", "day", "slant", "sun", "a", "b", "c", "d", "e", "f", "g", "h"};
    private static final String[] SIGNS = {"<", "<=", "=", ">=", ">"};
    private static final String[] SCRAPS = {"turn", "if", "or", "and", "not", "[", "]", "<", "=", ">", ";", "+", "-", "*", "/",
        "hour", "i", "ab", "99999", "100000", "000001", "24", "0", "T", "\0", "\u00ff", " ", "=", "<=", "< =", "iff", "nota"};

    private final Random random;

    LawTexts(Random random) {
        this.random = random;
    }

    String text() {
        StringBuilder out = new StringBuilder();
        int clauses = random.nextInt(12) == 0 ? 10 + random.nextInt(4) : 1 + random.nextInt(4);
        for (int i = 0; i < clauses; i++) {
            if (i > 0) put(out, ";");
            clause(out);
        }
        String text = out.toString();
        for (int spoilt = random.nextInt(3) == 0 ? 1 + random.nextInt(2) : 0; spoilt > 0; spoilt--) text = spoil(text);
        return text.length() > 400 ? text.substring(0, 400) : text;
    }

    private void put(StringBuilder out, String token) {
        boolean isLetter = token.matches("[a-z]+");
        boolean isDigit = token.matches("[0-9]+");
        if (out.length() > 0) {
            char last = out.charAt(out.length() - 1);
            boolean isNeeded = isLetter && last >= 'a' && last <= 'z' || isDigit && last >= '0' && last <= '9';
            int blanks = random.nextInt(3) == 0 ? random.nextInt(3) : isNeeded ? 1 : 0;
            out.append(" ".repeat(isNeeded ? Math.max(1, blanks) : blanks));
        }
        out.append(token);
    }

    private void clause(StringBuilder out) {
        put(out, "turn");
        put(out, Integer.toString(random.nextInt(20) == 0 ? random.nextInt(30) : random.nextInt(6)));
        sum(out);
        if (random.nextInt(3) > 0) {
            put(out, "if");
            test(out, 0);
        }
    }

    private void test(StringBuilder out, int depth) {
        part(out, depth);
        while (random.nextInt(5) == 0) {
            put(out, "or");
            part(out, depth);
        }
    }

    private void part(StringBuilder out, int depth) {
        fact(out, depth);
        while (random.nextInt(5) == 0) {
            put(out, "and");
            fact(out, depth);
        }
    }

    private void fact(StringBuilder out, int depth) {
        int kind = random.nextInt(depth > 4 ? 4 : 8);
        if (random.nextInt(60) == 0) {
            for (int i = 6 + random.nextInt(6); i > 0; i--) put(out, "not");
        }
        if (kind == 0) {
            put(out, "not");
            fact(out, depth + 1);
        } else if (kind == 1) {
            put(out, "[");
            test(out, depth + 1);
            put(out, "]");
        } else {
            sum(out);
            put(out, SIGNS[random.nextInt(5)]);
            sum(out);
        }
    }

    private void sum(StringBuilder out) {
        term(out);
        while (random.nextInt(3) == 0) {
            put(out, random.nextBoolean() ? "+" : "-");
            term(out);
        }
    }

    private void term(StringBuilder out) {
        value(out);
        while (random.nextInt(4) == 0) {
            put(out, random.nextBoolean() ? "*" : "/");
            value(out);
        }
    }

    private void value(StringBuilder out) {
        if (random.nextInt(2) == 0) {
            put(out, WORDS[random.nextInt(random.nextBoolean() ? 5 : WORDS.length)]);
        } else if (random.nextInt(6) == 0) {
            put(out, Integer.toString(random.nextInt(110000)));
        } else {
            put(out, Integer.toString(random.nextInt(25)));
        }
    }

    private String spoil(String text) {
        int at = random.nextInt(text.length() + 1);
        String scrap = SCRAPS[random.nextInt(SCRAPS.length)];
        switch (random.nextInt(4)) {
            case 0: return text.substring(0, at);
            case 1: return text.substring(0, at) + scrap + text.substring(at);
            case 2: return text.substring(0, at) + text.substring(Math.min(text.length(), at + 1 + random.nextInt(3)));
            default: return text.substring(0, at) + " " + scrap + " " + text.substring(at);
        }
    }
}
