import java.util.Random;

/** Texts of LAWS by chance, most of them without a FAULT. */
final class LawTexts {
    private static final String[] WORDS =
            {"who", "base", "rank", "oven", "had", "day", "other", "theirs"};
    private static final String[] JUNK = {"want", "x", "1001", "(", ")", "[", "]", ";", "if", "or", "and",
        "not", "<", "=", "+", "*", "waits", "wants", "7", "base", "B", "\u0000", "\u00ff", "", " ", "\t"};

    private final Random random;

    LawTexts(Random random) {
        this.random = random;
    }

    String law() {
        int clauses = random.nextInt(12) == 0 ? 10 + random.nextInt(5) : 1 + random.nextInt(4);
        StringBuilder text = new StringBuilder();
        for (int i = 0; i < clauses; i++) {
            text.append(i > 0 ? ";" : "").append(clauses > 9 ? shortClause() : clause());
        }
        String whole = text.toString();
        if (random.nextInt(5) == 0) {
            whole = spoilt(whole);
        }
        return whole.substring(0, Math.min(400, whole.length()));
    }

    private String spoilt(String text) {
        int from = random.nextInt(text.length() + 1);
        int to = Math.min(text.length(), from + random.nextInt(4));
        return text.substring(0, from) + JUNK[random.nextInt(JUNK.length)] + text.substring(to);
    }

    private String shortClause() {
        return random.nextBoolean() ? "wants " + part(9) : "waits if rank" + sign() + "theirs";
    }

    private String clause() {
        String kind;
        if (random.nextInt(5) < 3) {
            kind = "wants" + gap() + sum(0);
        } else {
            kind = "waits";
            // Waiting by rank or number has ORDERS most of the time, other tests often none.
            if (random.nextInt(3) > 0) {
                String[] kinds = {"rank<theirs", "rank > theirs", "who>other and rank=theirs",
                    "other = who+1", "who<other and day/2*2=day", "other/2=who", "had>other"};
                return gap() + "waits if " + kinds[random.nextInt(kinds.length)];
            }
        }
        return gap() + kind + (random.nextInt(3) > 0 ? " if" + gap() + test(0) : "") + blanks();
    }

    private String blanks() {
        return " ".repeat(Math.max(0, random.nextInt(4) - 2));
    }

    private String gap() {
        return " ".repeat(Math.max(1, random.nextInt(4)));
    }

    private String sign() {
        return String.valueOf("<>=".charAt(random.nextInt(3)));
    }

    private String test(int depth) {
        String text = both(depth);
        while (random.nextInt(4) == 0) {
            text += gap() + "or" + gap() + both(depth);
        }
        return text;
    }

    private String both(int depth) {
        String text = plain(depth);
        while (random.nextInt(4) == 0) {
            text += gap() + "and" + gap() + plain(depth);
        }
        return text;
    }

    private String plain(int depth) {
        int kind = random.nextInt(8);
        if (kind == 0) {
            return "not" + gap() + plain(depth);
        }
        if (kind == 1 && depth < 4) {
            return "(" + test(depth + 1) + ")";
        }
        return sum(depth) + sign() + sum(depth);
    }

    private String sum(int depth) {
        String text = term(depth);
        while (random.nextInt(3) == 0) {
            text += blanks() + (random.nextBoolean() ? "+" : "-") + blanks() + term(depth);
        }
        return text;
    }

    private String term(int depth) {
        String text = part(depth);
        while (random.nextInt(4) == 0) {
            text += (random.nextInt(3) > 0 ? "*" : "/") + part(depth);
        }
        return text;
    }

    private String part(int depth) {
        int kind = random.nextInt(12);
        if (kind == 0 && depth < 4) {
            return "[" + sum(depth + 1) + "]";
        }
        if (kind < 6) {
            return WORDS[random.nextInt(WORDS.length)];
        }
        int[] numbers = {0, 1, 2, 3, 5, 7, 13, 14, 26, 40, 41, 999, 1000};
        return String.valueOf(numbers[random.nextInt(numbers.length)]);
    }
}
