import java.util.ArrayList;
import java.util.List;
import java.util.Random;

/**
 * Changes by chance (always the same ones), one behind the other, to a bakery that is full or nearly:
 * an object that is asked behind each of them answers as a new one that saw the changes alone.
 */
public final class ManyChangesTest extends Kit {
    private interface Change {
        void on(ThirteenthLoaf x);
    }

    private static final int RUNS = 150;
    private static final int MOST_CALLS = 400;
    private static final String[] LAWS = {"waits if rank<theirs", "wants base+day", "wants 1 if day/2*2=day",
        "wants 2+who; waits if other=who+1", "wants had+1; waits if rank>theirs and day<5",
        "wants 3; waits if who<4 and other>3", "waits if oven>0 and other=0", "wants 40 if who=day; wants 7/who"};

    private final Random random;
    private final List<Change> changes = new ArrayList<>();
    private final ThirteenthLoaf asked = new ThirteenthLoaf();
    private int calls;

    private ManyChangesTest(int seed) {
        random = new Random(seed);
    }

    public static void main(String[] args) {
        for (int seed = 1; seed <= RUNS; seed++) {
            says("run " + seed);
            new ManyChangesTest(seed).run();
        }
        finish();
    }

    private void run() {
        int dozen = 2 + random.nextInt(12);
        change(x -> x.terms(0, dozen));
        for (int many = 5 + random.nextInt(4); many > 0; many--) {
            int base = random.nextInt(1 + random.nextInt(14));
            int rank = random.nextInt(4);
            int oven = random.nextInt(5) / 4;
            change(x -> x.customer(base, rank, oven));
        }
        change(x -> x.image(0));
        while (calls < MOST_CALLS) {
            anyChange();
            ThirteenthLoaf fresh = new ThirteenthLoaf();
            for (Change change : changes) {
                change.on(fresh);
            }
            askBoth(fresh);
        }
    }

    private void change(Change change) {
        changes.add(change);
        change.on(asked);
        calls++;
    }

    private void anyChange() {
        int customer = random.nextInt(8);
        int few = random.nextInt(4);
        int more = random.nextInt(15);
        switch (random.nextInt(11)) {
            case 0: change(x -> x.put(customer, 0, more)); break;
            case 1: change(x -> x.put(customer, 1 + few, few > 0 ? 1 : more)); break;
            case 2: change(x -> x.terms(0, 2 + more)); break;
            case 3: change(x -> x.terms(1, few)); break;
            case 4: change(x -> x.terms(2 + few % 3, more)); break;
            case 5: change(x -> rule(x, LAWS[more % LAWS.length])); calls += 7; break;
            case 6: change(x -> x.force(NONE)); break;
            case 7: change(x -> x.claim(customer, few)); break;
            case 8: change(x -> x.bake(few % 3)); break;
            case 9: change(x -> x.back(0)); break;
            default: change(x -> x.customer(more, few, 0));
        }
    }

    private void askBoth(ThirteenthLoaf fresh) {
        for (int what = 0; what <= 9; what++) {
            same("best " + what, asked.best(what), fresh.best(what));
            same("fairest " + what, asked.fairest(what), fresh.fairest(what));
            same("wrong " + what, asked.wrong(what), fresh.wrong(what));
        }
        int customer = random.nextInt(8);
        same("orders", asked.orders(), fresh.orders());
        same("chances", asked.chances(customer, 1), fresh.chances(customer, 1));
        same("never", asked.never(customer, 3), fresh.never(customer, 3));
        int days = asked.year(NONE);
        same("year", days, fresh.year(NONE));
        for (int i = 0; i <= days; i++) {
            same("year " + i, asked.year(i), fresh.year(i));
        }
    }

    private void same(String call, long got, long want) {
        calls++;
        due(call + " behind change " + changes.size(), got, want);
    }
}
