import java.math.BigInteger;
import java.util.ArrayList;
import java.util.List;

/** A LAW as a tree, read by the grammar of the document; null is what is BROKEN. */
final class PlainLaw {
    /** A TEXT that can't be, and where. */
    static final class Fault extends Exception {
        private static final long serialVersionUID = 1L;
        final int place;

        Fault(int place) {
            this.place = place;
        }
    }

    private record Token(String text, int place) {
    }

    private interface Node {
        BigInteger value(int[] words);
    }

    private record Clause(boolean wants, Node sum, Node test) {
    }

    private static final List<String> WORDS =
            List.of("who", "base", "rank", "oven", "had", "day", "other", "theirs");
    private static final BigInteger MOST = BigInteger.valueOf(1000000000);

    final int[][] askedOf = new int[8][];
    final int[] answered = new int[8];
    private final List<Clause> clauses = new ArrayList<>();
    private final List<Token> tokens = new ArrayList<>();
    private int at;
    private int parts;

    static PlainLaw read(List<Integer> bytes) throws Fault {
        PlainLaw law = new PlainLaw();
        law.cut(bytes);
        law.clause();
        while (!law.is("")) {
            law.take(";");
            if (law.clauses.size() == 12) {
                throw law.fault();
            }
            law.clause();
        }
        return law;
    }

    Long wants(int[] words) {
        Long last = null;
        for (Clause c : clauses) {
            if (c.wants && holds(c, words)) {
                last = c.sum.value(words).longValueExact();
            }
        }
        return last;
    }

    boolean waits(int[] words) {
        for (Clause c : clauses) {
            if (!c.wants && holds(c, words)) {
                return true;
            }
        }
        return false;
    }

    private static boolean holds(Clause c, int[] words) {
        boolean so = c.test == null || BigInteger.ONE.equals(c.test.value(words));
        return so && (!c.wants || c.sum.value(words) != null);
    }

    private void cut(List<Integer> bytes) {
        int i = 0;
        while (i < bytes.size()) {
            int from = i;
            int kind = kind(bytes.get(i));
            StringBuilder text = new StringBuilder();
            do {
                text.append((char) (int) bytes.get(i));
                i++;
            } while (kind > 1 && i < bytes.size() && kind(bytes.get(i)) == kind);
            if (kind > 0) {
                tokens.add(new Token(text.toString(), from));
            }
        }
        tokens.add(new Token("", bytes.size()));
    }

    private static int kind(int b) {
        return b == 32 ? 0 : b >= 'a' && b <= 'z' ? 2 : b >= '0' && b <= '9' ? 3 : 1;
    }

    private boolean is(String text) {
        return tokens.get(at).text.equals(text);
    }

    private Fault fault() {
        return new Fault(tokens.get(at).place);
    }

    private void take(String text) throws Fault {
        if (!is(text)) {
            throw fault();
        }
        at++;
    }

    private void clause() throws Fault {
        Node sum = null;
        if (is("wants")) {
            at++;
            sum = sum(0);
        } else {
            take("waits");
        }
        Node test = null;
        if (is("if")) {
            at++;
            test = test(0);
        }
        clauses.add(new Clause(sum != null, sum, test));
    }

    private Node test(int open) throws Fault {
        Node left = both(open);
        if (!is("or")) {
            return left;
        }
        at++;
        Node right = test(open);
        return words -> {
            BigInteger so = left.value(words);
            return so == null ? null : so.signum() != 0 ? so : right.value(words);
        };
    }

    private Node both(int open) throws Fault {
        Node left = plain(open);
        if (!is("and")) {
            return left;
        }
        at++;
        Node right = both(open);
        return words -> {
            BigInteger so = left.value(words);
            return so == null ? null : so.signum() == 0 ? so : right.value(words);
        };
    }

    private Node plain(int open) throws Fault {
        if (is("not")) {
            at++;
            Node turned = plain(open);
            return words -> {
                BigInteger so = turned.value(words);
                return so == null ? null : BigInteger.ONE.subtract(so);
            };
        }
        if (is("(")) {
            if (open == 8) {
                throw fault();
            }
            at++;
            Node inner = test(open + 1);
            take(")");
            return inner;
        }
        Node left = sum(open);
        String sign = tokens.get(at).text;
        if (!sign.equals("<") && !sign.equals(">") && !sign.equals("=")) {
            throw fault();
        }
        at++;
        Node right = sum(open);
        return words -> {
            BigInteger l = left.value(words);
            BigInteger r = right.value(words);
            if (l == null || r == null) {
                return null;
            }
            int by = l.compareTo(r);
            boolean so = sign.equals("<") ? by < 0 : sign.equals(">") ? by > 0 : by == 0;
            return so ? BigInteger.ONE : BigInteger.ZERO;
        };
    }

    private Node sum(int open) throws Fault {
        Node all = term(open);
        while (is("+") || is("-")) {
            boolean plus = is("+");
            at++;
            Node left = all;
            Node right = term(open);
            all = words -> {
                BigInteger l = left.value(words);
                BigInteger r = right.value(words);
                return l == null || r == null ? null : within(plus ? l.add(r) : l.subtract(r));
            };
        }
        return all;
    }

    private Node term(int open) throws Fault {
        Node all = part(open);
        while (is("*") || is("/")) {
            boolean times = is("*");
            at++;
            Node left = all;
            Node right = part(open);
            all = words -> {
                BigInteger l = left.value(words);
                BigInteger r = right.value(words);
                if (l == null || r == null || !times && r.signum() == 0) {
                    return null;
                }
                return within(times ? l.multiply(r) : l.divide(r));
            };
        }
        return all;
    }

    private static BigInteger within(BigInteger value) {
        return value.abs().compareTo(MOST) > 0 ? null : value;
    }

    private Node part(int open) throws Fault {
        if (is("[")) {
            if (open == 8) {
                throw fault();
            }
            at++;
            Node inner = sum(open + 1);
            take("]");
            return inner;
        }
        String text = tokens.get(at).text;
        Node node;
        if (WORDS.contains(text)) {
            int word = WORDS.indexOf(text);
            node = words -> BigInteger.valueOf(words[word]);
        } else if (text.matches("[0-9]+")
                && new BigInteger(text).compareTo(BigInteger.valueOf(1000)) <= 0) {
            BigInteger number = new BigInteger(text);
            node = words -> number;
        } else {
            throw fault();
        }
        if (parts == 50) {
            throw fault();
        }
        parts++;
        at++;
        return node;
    }
}
