import java.util.ArrayList;
import java.util.Arrays;
import java.util.List;
import java.util.TreeSet;

/**
 * The document once more, as plainly as it can be said: every ORDER is written out, every loaf is
 * looked at by itself, a LAW is a tree. RandomRunsTest holds the program against it.
 */
final class PlainBakery {
    static final int NONE = -1;
    static final int NOTHING = -1000000000;

    /** What an IMAGE keeps. */
    private static final class Kept {
        List<int[]> customers = new ArrayList<>();
        int[] terms = {13, 0, 0, 0, 0};
        List<PlainLaw> laws = new ArrayList<>();
        int force = NONE;
        List<int[]> sights = new ArrayList<>();
        List<int[]> claims = new ArrayList<>();

        Kept copy() {
            Kept k = new Kept();
            for (int[] c : customers) {
                k.customers.add(c.clone());
            }
            k.terms = terms.clone();
            k.laws = new ArrayList<>(laws);
            k.force = force;
            k.sights = new ArrayList<>(sights);
            k.claims = new ArrayList<>(claims);
            return k;
        }
    }

    private Kept s = new Kept();
    private final Kept[] images = new Kept[2];
    private final List<Integer> tape = new ArrayList<>();
    private int fault = NONE;
    private int crumbs;
    private int[] drawnGot = new int[0];
    private int[] drawnPlace = new int[0];
    private final int[] refused = new int[7];
    private int status;

    private static final int[] MOST_OF = {40, 9, 1, 9999, 999999};

    private int no(int by) {
        refused[-by]++;
        status = by;
        return by;
    }

    private int yes(int answer) {
        status = 0;
        return answer;
    }

    private boolean is(int customer) {
        return customer >= 0 && customer < s.customers.size();
    }

    int customer(int base, int rank, int oven) {
        if (base < 0 || base > 40 || rank < 0 || rank > 9 || oven < 0 || oven > 1) {
            return no(-1);
        }
        if (s.customers.size() == 8) {
            return no(-5);
        }
        s.customers.add(new int[] {base, rank, oven, 0, 0});
        return yes(s.customers.size() - 1);
    }

    int put(int customer, int what, int value) {
        if (what < 0 || what > 4 || value < 0 || value > MOST_OF[what]) {
            return no(-1);
        }
        if (!is(customer)) {
            return no(-2);
        }
        int was = s.customers.get(customer)[what];
        s.customers.get(customer)[what] = value;
        return yes(was);
    }

    int of(int customer, int what) {
        if (!is(customer) || what < 0 || what > 5) {
            return NONE;
        }
        return what == 5 ? wants(s, customer, s.terms[2]) : s.customers.get(customer)[what];
    }

    int owed(int customer) {
        return is(customer)
                ? s.customers.get(customer)[4] - s.terms[0] * s.customers.get(customer)[3] : NOTHING;
    }

    int terms(int what, int value) {
        int[] least = {2, 0, 0, 0, 0};
        int[] most = {20, 9, 9999, 999999, 999999};
        if (what < 0 || what > 4 || value < least[what] || value > most[what]) {
            return no(-1);
        }
        int was = s.terms[what];
        s.terms[what] = value;
        return yes(was);
    }

    int feed(int a, int b, int c, int d, int e) {
        if (tape.size() + 20 > 400) {
            return NONE;
        }
        for (int number : new int[] {a, b, c, d, e}) {
            tape.add(number >> 24 & 255);
            tape.add(number >> 16 & 255);
            tape.add(number >> 8 & 255);
            tape.add(number & 255);
        }
        return tape.size();
    }

    int end(int n) {
        if (n < 0 || n > tape.size()) {
            return NONE;
        }
        while (tape.size() > n) {
            tape.remove(tape.size() - 1);
        }
        return n;
    }

    int row() {
        if (tape.isEmpty()) {
            return no(-6);
        }
        int came = 0;
        crumbs = 0;
        for (int i = 0; i < tape.size(); i += 3) {
            if (i + 2 < tape.size() && s.customers.size() < 8 && tape.get(i) <= 40
                    && tape.get(i + 1) <= 9 && tape.get(i + 2) <= 1) {
                s.customers.add(new int[] {tape.get(i), tape.get(i + 1), tape.get(i + 2), 0, 0});
                came++;
            } else {
                crumbs++;
            }
        }
        tape.clear();
        return yes(came);
    }

    int crumbs() {
        return crumbs;
    }

    int law() {
        List<Integer> text = new ArrayList<>(tape);
        tape.clear();
        if (s.laws.size() == 6) {
            return no(-5);
        }
        try {
            s.laws.add(PlainLaw.read(text));
            fault = NONE;
            return yes(s.laws.size() - 1);
        } catch (PlainLaw.Fault f) {
            fault = f.place;
            return no(-6);
        }
    }

    int fault() {
        return fault;
    }

    int force(int law) {
        if (law != NONE && (law < 0 || law >= s.laws.size())) {
            return no(-2);
        }
        int was = s.force;
        s.force = law;
        return yes(was);
    }

    int waits(int customer, int other) {
        if (!is(customer) || !is(other) || customer == other) {
            return NONE;
        }
        return waits(s, customer, other, s.terms[2]) ? 1 : 0;
    }

    int blessed(int n, int what) {
        if (n < 1 || n > 1000000 || what < 0 || what > 1) {
            return NONE;
        }
        boolean[] is = loaves(s);
        int many = 0;
        for (int i = 1; i <= n; i++) {
            many += is[i] ? 1 : 0;
        }
        return what == 1 ? many : is[n] ? 1 : 0;
    }

    int served(int customer, int what) {
        if (!is(customer) || what < 0 || what > 1) {
            return NONE;
        }
        int next = s.terms[3 + s.customers.get(customer)[2]] + 1;
        for (int c = 0; c < customer; c++) {
            if (s.customers.get(c)[2] == s.customers.get(customer)[2]) {
                next += wants(s, c, s.terms[2]);
            }
        }
        int wants = wants(s, customer, s.terms[2]);
        if (what == 1) {
            return wants == 0 ? NONE : next;
        }
        int got = 0;
        for (int i = 0; i < wants; i++) {
            got += loaves(s)[next + i] ? 1 : 0;
        }
        return got;
    }

    int orders() {
        return allOrders(s, s.terms[2]).size();
    }

    int best(int what) {
        int most = -1;
        int many = 0;
        int[] first = null;
        for (int[] order : allOrders(s, s.terms[2])) {
            int lucky = 0;
            for (int got : gets(s, order, s.terms[2], s.terms[3], s.terms[4])) {
                lucky += got > 0 ? 1 : 0;
            }
            if (lucky > most) {
                most = lucky;
                many = 0;
                first = order;
            }
            many += lucky == most ? 1 : 0;
        }
        return told(what, most, many, first);
    }

    private static int told(int what, int value, int many, int[] first) {
        if (what == 1) {
            return many;
        }
        if (first == null || what < 0 || what >= 2 + first.length) {
            return NONE;
        }
        return what == 0 ? value : first[what - 2];
    }

    private int[] fairestOrder() {
        int least = Integer.MAX_VALUE;
        int[] first = null;
        for (int[] order : allOrders(s, s.terms[2])) {
            int greatest = greatestOwed(order);
            if (greatest < least) {
                least = greatest;
                first = order;
            }
        }
        return first;
    }

    private int greatestOwed(int[] order) {
        int[] got = gets(s, order, s.terms[2], s.terms[3], s.terms[4]);
        int greatest = 0;
        for (int c = 0; c < got.length; c++) {
            int[] traits = s.customers.get(c);
            int owed = traits[4] + wants(s, c, s.terms[2]) - s.terms[0] * (traits[3] + got[c]);
            greatest = Math.max(greatest, Math.abs(owed));
        }
        return greatest;
    }

    int fairest(int what) {
        int[] first = fairestOrder();
        if (first == null || what < 0 || what >= 1 + first.length) {
            return NONE;
        }
        return what == 0 ? greatestOwed(first) : first[what - 1];
    }

    int year(int i) {
        int n = s.customers.size();
        if (n == 0 || i < NONE || i >= 30) {
            return NONE;
        }
        List<TreeSet<Integer>> families = new ArrayList<>();
        TreeSet<Integer> reached = new TreeSet<>(List.of(0));
        int[] baked = {s.terms[3], s.terms[4]};
        for (int d = 0; d < 30 && !reached.contains((1 << n) - 1); d++) {
            families.add(family(s.terms[2] + d, baked));
            TreeSet<Integer> then = new TreeSet<>();
            for (int u : reached) {
                for (int m : families.get(d)) {
                    then.add(u | m);
                }
            }
            reached = then;
            for (int c = 0; c < n; c++) {
                baked[s.customers.get(c)[2]] += wants(s, c, s.terms[2] + d);
            }
        }
        if (!reached.contains((1 << n) - 1)) {
            return NONE;
        }
        if (i == NONE) {
            return families.size();
        }
        int had = 0;
        for (int d = 0; d <= i && d < families.size(); d++) {
            int lowest = Integer.MAX_VALUE;
            for (int m : families.get(d)) {
                if ((had | m) < lowest && canEnd(families, d + 1, had | m, (1 << n) - 1)) {
                    lowest = had | m;
                }
            }
            had = lowest;
        }
        return i < families.size() ? had : NONE;
    }

    private static boolean canEnd(List<TreeSet<Integer>> families, int day, int had, int all) {
        TreeSet<Integer> reached = new TreeSet<>(List.of(had));
        for (int d = day; d < families.size(); d++) {
            TreeSet<Integer> then = new TreeSet<>();
            for (int u : reached) {
                for (int m : families.get(d)) {
                    then.add(u | m);
                }
            }
            reached = then;
        }
        return reached.contains(all);
    }

    private TreeSet<Integer> family(int day, int[] baked) {
        TreeSet<Integer> sets = new TreeSet<>();
        for (int[] order : allOrders(s, day)) {
            int[] got = gets(s, order, day, baked[0], baked[1]);
            int set = 0;
            for (int c = 0; c < got.length; c++) {
                set |= got[c] > 0 ? 1 << c : 0;
            }
            sets.add(set);
        }
        return sets;
    }

    int chances(int customer, int many) {
        if (!is(customer) || many < 0 || many > 20) {
            return NONE;
        }
        return chancesOn(customer, many, s.terms[2], s.terms[3], s.terms[4]);
    }

    private int chancesOn(int customer, int many, int day, int first, int second) {
        int in = 0;
        for (int[] order : allOrders(s, day)) {
            in += gets(s, order, day, first, second)[customer] == many ? 1 : 0;
        }
        return in;
    }

    long never(int customer, int days) {
        if (!is(customer) || days < 1 || days > 4) {
            return NONE;
        }
        long rows = 1;
        int[] baked = {s.terms[3], s.terms[4]};
        for (int d = 0; d < days; d++) {
            rows *= chancesOn(customer, 0, s.terms[2] + d, baked[0], baked[1]);
            for (int c = 0; c < s.customers.size(); c++) {
                baked[s.customers.get(c)[2]] += wants(s, c, s.terms[2] + d);
            }
        }
        return rows;
    }

    int sight(int customer, int many) {
        return say(s.sights, customer, many);
    }

    int claim(int customer, int many) {
        return say(s.claims, customer, many);
    }

    private int say(List<int[]> sayings, int customer, int many) {
        if (many < 0 || many > 20) {
            return no(-1);
        }
        if (!is(customer)) {
            return no(-2);
        }
        if (sayings.size() == 8) {
            return no(-5);
        }
        sayings.add(new int[] {customer, many});
        return yes(sayings.size());
    }

    int counts(int oven, int i) {
        if (oven < 0 || oven > 1) {
            return NONE;
        }
        List<Integer> could = new ArrayList<>();
        int round = s.terms[1] == 0 ? s.terms[0] : s.terms[1] * s.terms[0] + 1;
        int[] told = told();
        for (int baked = 0; baked < round; baked++) {
            int[] got = gets(s, told, s.terms[2], baked, baked);
            boolean so = true;
            for (int[] sight : s.sights) {
                so &= s.customers.get(sight[0])[2] != oven || got[sight[0]] == sight[1];
            }
            if (so) {
                could.add(baked);
            }
        }
        if (i == NONE) {
            return could.size();
        }
        return i >= 0 && i < could.size() ? could.get(i) : NONE;
    }

    int wrong(int what) {
        int fewest = Integer.MAX_VALUE;
        int many = 0;
        int[] first = null;
        for (int[] order : allOrders(s, s.terms[2])) {
            int[] got = gets(s, order, s.terms[2], s.terms[3], s.terms[4]);
            int lies = 0;
            for (int[] claim : s.claims) {
                lies += got[claim[0]] != claim[1] ? 1 : 0;
            }
            if (lies < fewest) {
                fewest = lies;
                many = 0;
                first = order;
            }
            many += lies == fewest ? 1 : 0;
        }
        return told(what, fewest, many, first);
    }

    int forget() {
        int were = s.sights.size() + s.claims.size();
        s.sights.clear();
        s.claims.clear();
        return were;
    }

    int bake(int how) {
        if (how < 0 || how > 2) {
            return no(-1);
        }
        int[] order = told();
        if (how == 1) {
            order = new int[s.customers.size()];
            for (int i = 0; i < order.length; i++) {
                order[i] = best(2 + i);
            }
            order = best(1) == 0 ? null : order;
        } else if (how == 2) {
            order = fairestOrder();
        }
        if (order == null) {
            return no(-3);
        }
        int[] got = gets(s, order, s.terms[2], s.terms[3], s.terms[4]);
        Kept then = dayOn(s, got);
        if (then == null) {
            return no(-5);
        }
        s = then;
        return yes(Arrays.stream(got).sum());
    }

    /** A copy on which the DAY has gone by; null if a number would be above its most. */
    private Kept dayOn(Kept k, int[] got) {
        Kept then = k.copy();
        for (int c = 0; c < got.length; c++) {
            int wants = wants(k, c, k.terms[2]);
            int[] traits = then.customers.get(c);
            traits[3] += got[c];
            traits[4] += wants;
            then.terms[3 + traits[2]] += wants;
            if (traits[3] > 9999 || traits[4] > 999999) {
                return null;
            }
        }
        then.terms[2]++;
        boolean above = then.terms[2] > 9999 || then.terms[3] > 999999 || then.terms[4] > 999999;
        return above ? null : then;
    }

    int queues(int seed, int n) {
        if (seed < 0 || seed > 1000000 || n < 1 || n > 20) {
            return no(-1);
        }
        long draw = seed;
        Kept k = s;
        int[] all = new int[s.customers.size()];
        int[] place = new int[all.length];
        for (int d = 0; d < n; d++) {
            List<Integer> left = new ArrayList<>();
            for (int c = 0; c < all.length; c++) {
                left.add(c);
            }
            int[] order = new int[all.length];
            for (int i = 0; i < order.length; i++) {
                List<Integer> can = new ArrayList<>();
                for (int c : left) {
                    boolean waits = false;
                    for (int o : left) {
                        waits |= o != c && waits(k, c, o, k.terms[2]);
                    }
                    if (!waits) {
                        can.add(c);
                    }
                }
                if (can.isEmpty()) {
                    can = left;
                }
                draw = (draw * 1103 + 12345) % 1000003;
                Integer taken = can.get((int) (draw % can.size()));
                left.remove(taken);
                order[i] = taken;
                place[taken] = i;
            }
            int[] got = gets(k, order, k.terms[2], k.terms[3], k.terms[4]);
            for (int c = 0; c < got.length; c++) {
                all[c] += got[c];
            }
            k = dayOn(k, got);
            if (k == null) {
                return no(-5);
            }
        }
        drawnGot = all;
        drawnPlace = place;
        return yes(Arrays.stream(all).sum());
    }

    int drawn(int customer, int what) {
        if (customer < 0 || customer >= drawnGot.length || what < 0 || what > 1) {
            return NONE;
        }
        return what == 0 ? drawnGot[customer] : drawnPlace[customer];
    }

    int image(int k) {
        if (k != 0 && k != 1) {
            return no(-1);
        }
        images[k] = s.copy();
        return yes(0);
    }

    int back(int k) {
        if (k != 0 && k != 1) {
            return no(-1);
        }
        if (images[k] == null) {
            return no(-2);
        }
        s = images[k].copy();
        return yes(0);
    }

    int count(int what) {
        int[] all = {s.customers.size(), s.laws.size(), s.sights.size(), s.claims.size(), tape.size(),
            refused[1], refused[2], refused[3], refused[5], refused[6], s.force,
            s.terms[0], s.terms[1], s.terms[2], s.terms[3], s.terms[4]};
        return what >= 0 && what < all.length ? all[what] : NONE;
    }

    int status() {
        return status;
    }

    private int[] told() {
        int[] order = new int[s.customers.size()];
        for (int i = 0; i < order.length; i++) {
            order[i] = i;
        }
        return order;
    }

    private static int wants(Kept k, int customer, int day) {
        int[] c = k.customers.get(customer);
        Long told = k.force == NONE ? null
                : k.laws.get(k.force).wants(new int[] {customer, c[0], c[1], c[2], c[3], day, -1, -1});
        return told == null ? c[0] : (int) Math.min(40, Math.max(0, told));
    }

    private static boolean waits(Kept k, int customer, int other, int day) {
        int[] c = k.customers.get(customer);
        return k.force != NONE && k.laws.get(k.force).waits(
                new int[] {customer, c[0], c[1], c[2], c[3], day, other, k.customers.get(other)[1]});
    }

    /** All ORDERS of a DAY, the first as a row first. */
    private static List<int[]> allOrders(Kept k, int day) {
        int n = k.customers.size();
        boolean[][] waits = new boolean[n][n];
        for (int c = 0; c < n; c++) {
            for (int o = 0; o < n; o++) {
                waits[c][o] = c != o && waits(k, c, o, day);
            }
        }
        List<int[]> orders = new ArrayList<>();
        extend(new int[n], 0, new boolean[n], waits, orders);
        return orders;
    }

    private static void extend(int[] row, int at, boolean[] used, boolean[][] waits, List<int[]> to) {
        if (at == row.length) {
            for (int i = 0; i < at; i++) {
                for (int j = i + 1; j < at; j++) {
                    if (waits[row[i]][row[j]]) {
                        return;
                    }
                }
            }
            to.add(row.clone());
            return;
        }
        for (int c = 0; c < row.length; c++) {
            if (!used[c]) {
                used[c] = true;
                row[at] = c;
                extend(row, at + 1, used, waits, to);
                used[c] = false;
            }
        }
    }

    private static int[] gets(Kept k, int[] order, int day, int first, int second) {
        boolean[] blessed = loaves(k);
        int[] next = {first + 1, second + 1};
        int[] wants = new int[order.length];
        for (int c = 0; c < wants.length; c++) {
            wants[c] = k.force == NONE ? k.customers.get(c)[0] : remembered(k, c, day);
        }
        int[] got = new int[order.length];
        for (int c : order) {
            int oven = k.customers.get(c)[2];
            for (int i = 0; i < wants[c]; i++) {
                got[c] += blessed[next[oven]] ? 1 : 0;
                next[oven]++;
            }
        }
        return got;
    }

    /** The same question is asked for each of 40,320 ORDERS: the latest answers are kept. */
    private static int remembered(Kept k, int customer, int day) {
        int[] c = k.customers.get(customer);
        int[] asked = {customer, c[0], c[1], c[2], c[3], day, -1, -1};
        PlainLaw law = k.laws.get(k.force);
        if (!Arrays.equals(law.askedOf[customer], asked)) {
            law.askedOf[customer] = asked;
            law.answered[customer] = wants(k, customer, day);
        }
        return law.answered[customer];
    }

    private static boolean[] known = new boolean[0];
    private static int knownDozen;
    private static int knownLeap;

    /** Which loaves are BLESSED, dozen by dozen from the first. */
    private static boolean[] loaves(Kept k) {
        if (knownDozen != k.terms[0] || knownLeap != k.terms[1]) {
            knownDozen = k.terms[0];
            knownLeap = k.terms[1];
            known = new boolean[1020000];
            int at = 0;
            for (int dozen = 1; ; dozen++) {
                at += knownDozen + (knownLeap > 0 && dozen % knownLeap == 0 ? 1 : 0);
                if (at >= known.length) {
                    break;
                }
                known[at] = true;
            }
        }
        return known;
    }
}
