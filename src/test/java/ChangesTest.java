import java.util.Map;
import java.util.function.Supplier;

/**
 * Each answer is by what stands when it is asked for: an object that was asked ahead of a change
 * answers behind it as one that was not.
 */
public final class ChangesTest extends Kit {
    private interface Change {
        void on(ThirteenthLoaf x);
    }

    public static void main(String[] args) {
        someoneComes();
        someoneChanges();
        termsChange();
        lawsChange();
        sayingsChange();
        daysGoBy();
        backToFewerAndMore();
        finish();
    }

    private static ThirteenthLoaf some() {
        ThirteenthLoaf x = new ThirteenthLoaf();
        x.customer(5, 1, 0);
        x.customer(8, 2, 0);
        law(x, "wants base+1; waits if who<other");
        x.image(0);
        x.customer(6, 0, 1);
        x.customer(7, 4, 1);
        rule(x, "waits if rank>theirs and day<2");
        x.sight(0, 0);
        x.claim(1, 1);
        x.claim(3, 1);
        x.bake(0);
        return x;
    }

    private static ThirteenthLoaf crowd() {
        ThirteenthLoaf x = some();
        x.customer(9, 3, 0);
        x.customer(10, 5, 1);
        x.customer(11, 1, 0);
        x.customer(12, 0, 0);
        x.claim(7, 1);
        x.image(1);
        return x;
    }

    private static void anew(String name, Supplier<ThirteenthLoaf> scene, Change change) {
        ThirteenthLoaf asked = scene.get();
        Look.ask(asked);
        change.on(asked);
        ThirteenthLoaf fresh = scene.get();
        change.on(fresh);
        Map<String, Long> want = Look.at(fresh);
        Map<String, Long> got = Look.at(asked);
        for (Map.Entry<String, Long> entry : want.entrySet()) {
            due(name + ", then " + entry.getKey(), got.get(entry.getKey()), entry.getValue());
        }
    }

    private static void someoneComes() {
        anew("customer", ChangesTest::some, x -> x.customer(13, 9, 0));
        anew("row", ChangesTest::some, x -> {
            bytes(x, 13, 9, 0, 6, 9, 1);
            x.row();
        });
    }

    private static void someoneChanges() {
        int[] values = {20, 9, 1, 7, 77};
        for (int what = 0; what < values.length; what++) {
            int w = what;
            anew("put " + w, ChangesTest::some, x -> x.put(0, w, values[w]));
            anew("put back " + w, ChangesTest::some, x -> x.put(3, w, 0));
        }
    }

    private static void termsChange() {
        int[] values = {5, 2, 7, 11, 12};
        for (int what = 0; what < values.length; what++) {
            int w = what;
            anew("terms " + w, ChangesTest::some, x -> x.terms(w, values[w]));
        }
    }

    private static void lawsChange() {
        anew("law", ChangesTest::some, x -> law(x, "wants 3; waits"));
        anew("law, force", ChangesTest::some, x -> rule(x, "wants 3 if day=1; waits if who>other"));
        anew("force 0", ChangesTest::some, x -> x.force(0));
        anew("force none", ChangesTest::some, x -> x.force(NONE));
    }

    private static void sayingsChange() {
        anew("sight", ChangesTest::some, x -> x.sight(1, 1));
        anew("claim", ChangesTest::some, x -> x.claim(0, 1));
        anew("forget", ChangesTest::some, ThirteenthLoaf::forget);
        anew("forget, claim", ChangesTest::some, x -> {
            x.forget();
            x.claim(2, 1);
        });
    }

    private static void daysGoBy() {
        for (int how = 0; how <= 2; how++) {
            int h = how;
            anew("bake " + h, ChangesTest::some, x -> x.bake(h));
            anew("bake " + h + ", crowd", ChangesTest::crowd, x -> x.bake(h));
        }
        anew("queues", ChangesTest::crowd, x -> x.queues(5, 20));
    }

    private static void backToFewerAndMore() {
        anew("back to fewer", ChangesTest::crowd, x -> x.back(0));
        anew("back to more", () -> {
            ThirteenthLoaf x = crowd();
            x.back(0);
            return x;
        }, x -> x.back(1));
        anew("image", ChangesTest::some, x -> x.image(0));
    }
}
