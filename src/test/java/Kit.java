/**
 * What the tests by hand share: answers that are due, texts on the TAPE, CUSTOMERS and LAWS. Tests
 * extend it, as what has no package can't be imported.
 */
class Kit {
    static final int NONE = ThirteenthLoaf.NONE;
    static final int NOTHING = ThirteenthLoaf.NOTHING;
    static final int LOWEST = Integer.MIN_VALUE;
    static final int HIGHEST = Integer.MAX_VALUE;
    private static String sentence = "";
    private static int wrong;
    private static int asked;

    /** The words of the document that the answers asked for from here on are about. */
    static void says(String words) {
        sentence = words;
    }

    static void due(String what, long got, long want) {
        asked++;
        if (got != want) {
            wrong++;
            System.out.println((sentence.isEmpty() ? "" : "\"" + sentence + "\" ") + what + ": answered "
                    + got + ", due is " + want);
        }
    }

    /** The end of a test, with exit code 1 if an answer was not the one that is due. */
    static void finish() {
        System.out.println(asked + " answers asked for, " + wrong + " not as due");
        System.exit(wrong == 0 ? 0 : 1);
    }

    /** Brings a text onto the TAPE, and nothing else. */
    static void tape(ThirteenthLoaf x, String text) {
        x.end(0);
        for (int i = 0; i < text.length(); i += 20) {
            x.feed(four(text, i), four(text, i + 4), four(text, i + 8), four(text, i + 12),
                    four(text, i + 16));
        }
        x.end(text.length());
    }

    private static int four(String text, int at) {
        int number = 0;
        for (int i = at; i < at + 4; i++) {
            number = number << 8 | (i < text.length() ? text.charAt(i) : 0);
        }
        return number;
    }

    /** The TAPE as bytes. */
    static void bytes(ThirteenthLoaf x, int... bytes) {
        StringBuilder text = new StringBuilder();
        for (int b : bytes) {
            text.append((char) b);
        }
        tape(x, text.toString());
    }

    static int law(ThirteenthLoaf x, String text) {
        tape(x, text);
        return x.law();
    }

    /** A LAW, in FORCE at once. */
    static int rule(ThirteenthLoaf x, String text) {
        int law = law(x, text);
        if (law >= 0) {
            x.force(law);
        }
        return law;
    }

    /** CUSTOMERS of RANK 0 at OVEN 0. */
    static ThirteenthLoaf with(int... bases) {
        ThirteenthLoaf x = new ThirteenthLoaf();
        for (int base : bases) {
            x.customer(base, 0, 0);
        }
        return x;
    }

    /** Single numbers, 0 to 9 each, as the digits of one. */
    static int digits(int... numbers) {
        int all = 0;
        for (int number : numbers) {
            all = all * 10 + number;
        }
        return all;
    }

    /** A LAW's TEXT, and where its FAULT is (NONE: it has none). */
    static void dueFault(String text, int place) {
        ThirteenthLoaf x = new ThirteenthLoaf();
        due("law of '" + text + "'", law(x, text), place == NONE ? 0 : -6);
        due("fault of '" + text + "'", x.fault(), place);
        due("laws behind '" + text + "'", x.count(1), place == NONE ? 1 : 0);
        due("tape behind '" + text + "'", x.count(4), 0);
    }

    /** CUSTOMER 1 has base 6, rank 4, oven 1, had 3, on day 9; CUSTOMER 0 has rank 2. */
    private static ThirteenthLoaf ruled(String text) {
        ThirteenthLoaf x = new ThirteenthLoaf();
        x.customer(1, 2, 0);
        x.customer(6, 4, 1);
        x.put(1, 3, 3);
        x.terms(2, 9);
        due("law of '" + text + "'", rule(x, text), 0);
        return x;
    }

    /** What that CUSTOMER 1 WANTS by a LAW. */
    static void dueWants(String text, int want) {
        due("wants by '" + text + "'", ruled(text).of(1, 5), want);
    }

    /** Whether he WAITS for CUSTOMER 0 by a LAW. */
    static void dueWaits(String text, int want) {
        due("waits by '" + text + "'", ruled(text).waits(1, 0), want);
    }
}
