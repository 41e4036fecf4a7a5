import java.lang.management.ManagementFactory;
import java.util.Random;

/**
 * 512 calls on one object at the document's limits: none throws, each ends soon, and what they make
 * is far below the room that a run has.
 */
public final class LimitsTest {
    /** The room of a run is some 7.3 million elements, 4 bytes each at least. */
    private static final long MOST_MADE = 7300000L;
    private static final long MOST_MILLIS = 20000;
    private static int wrong;

    private static void expect(boolean so, String what) {
        if (!so) {
            wrong++;
            System.out.println("not so: " + what);
        }
    }

    private static ThirteenthLoaf crowd(String law) {
        ThirteenthLoaf x = new ThirteenthLoaf();
        for (int i = 0; i < 8; i++) {
            x.customer(3 + i, i % 3, i % 2);
        }
        expect(Kit.law(x, law) == 0, "it is a law: " + law);
        x.force(0);
        return x;
    }

    /** 12 CLAUSES, 48 PARTS, 8 brackets within one another; its answers hang on the DAY. */
    private static String greatLaw() {
        StringBuilder law = new StringBuilder("wants [[[[[[[[day/5]]]]]]]]*0");
        law.append(";waits if day+9+who<other".repeat(10));
        return law.append(";wants 1 if who<8-7*1").toString();
    }

    private static long made() {
        return ((com.sun.management.ThreadMXBean) ManagementFactory.getThreadMXBean())
                .getThreadAllocatedBytes(Thread.currentThread().getId());
    }

    public static void main(String[] args) {
        long begun = System.currentTimeMillis();
        long before = made();
        dearest();
        long madeByDearest = made() - before;
        expect(madeByDearest < MOST_MADE, "the dearest calls make few objects: " + madeByDearest);
        before = made();
        manyLaws();
        long madeByLaws = made() - before;
        expect(madeByLaws < MOST_MADE, "laws make few objects: " + madeByLaws);
        for (int seed = 0; seed < 300; seed++) {
            anything(new Random(seed));
        }
        long took = System.currentTimeMillis() - begun;
        expect(took < MOST_MILLIS, "it ends soon, but took " + took);
        System.out.println(wrong == 0 ? "within the limits" : wrong + " beyond the limits");
        System.exit(wrong == 0 ? 0 : 1);
    }

    private static void dearest() {
        ThirteenthLoaf x = crowd(greatLaw());
        for (int i = 0; i < 28; i++) {
            x.terms(2, i);
            expect(x.year(-1) == -1, "no year of 30 days does it");
            expect(x.queues(i, 20) >= 0, "queues of 20 days");
            expect(x.never(7, 4) > 0, "rows of orders");
            expect(x.best(0) >= 0, "a best order");
            expect(x.fairest(0) >= 0, "a fairest order");
            expect(x.wrong(1) == x.orders(), "claims that hold by every order");
            expect(x.chances(0, 0) >= 0, "chances");
            x.image(i % 2);
            x.back(i % 2);
            x.sight(0, 0);
            x.claim(7, 0);
            x.counts(0, 0);
            x.bake(2);
        }
    }

    private static void manyLaws() {
        ThirteenthLoaf x = new ThirteenthLoaf();
        String law = "wants 1" + "+1".repeat(49);
        x.image(0);
        for (int i = 0; i < 50; i++) {
            expect(Kit.law(x, law) >= 0, "a law");
            x.back(0);
        }
    }

    /** Any call with any numbers, also far from what can be. */
    private static void anything(Random random) {
        Runs runs = new Runs();
        int[] odd = {Integer.MIN_VALUE, Integer.MAX_VALUE, -1000000000, -2, -1, 0, 1, 2, 3, 4, 5, 6, 7, 8, 9,
            13, 20, 21, 30, 40, 41, 400, 999999, 1000000};
        for (int i = 0; i < 512; i++) {
            int[] a = new int[5];
            for (int j = 0; j < a.length; j++) {
                a[j] = odd[random.nextInt(odd.length)];
            }
            if (random.nextInt(3) == 0) {
                runs.ofProgram("customer", new int[] {random.nextInt(41), random.nextInt(10),
                    random.nextInt(2)});
            } else {
                runs.ofProgram(Runs.NAMES.get(random.nextInt(Runs.NAMES.size())), a);
            }
        }
    }
}
