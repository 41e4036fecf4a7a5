import java.util.Map;
import java.util.function.Supplier;

/**
 * A call that is REFUSED answers by its number and changes nothing but what the document says of it:
 * all that can be seen of an object with the call is held against one without.
 */
public final class RefusalsTest extends Kit {
    private interface Call {
        long on(ThirteenthLoaf x);
    }

    public static void main(String[] args) {
        customer();
        put();
        terms();
        row();
        lawWithoutRoom();
        lawWithAFault();
        force();
        sightAndClaim();
        bakeThatCannotBe();
        bakeAboveTheMost();
        queues();
        imageAndBack();
        tapeThatCannotBe();
        askedWrongly();
        askedRightly();
        finish();
    }

    /** A little of everything, and room for more; the latest call was REFUSED by -2. */
    private static ThirteenthLoaf some() {
        ThirteenthLoaf x = new ThirteenthLoaf();
        x.customer(5, 1, 0);
        x.customer(8, 2, 0);
        x.customer(13, 0, 1);
        rule(x, "waits if rank<theirs and day<8; wants base+1 if oven=0");
        x.sight(0, 0);
        x.claim(1, 1);
        x.claim(0, 1);
        x.image(0);
        x.bake(0);
        x.queues(7, 3);
        law(x, "waits ?");
        bytes(x, 1, 1);
        x.row();
        tape(x, "wants 3 if day=2");
        x.put(9, 0, 0);
        return x;
    }

    /** No room for anything more, and IMAGE 1 was not kept. */
    private static ThirteenthLoaf full() {
        ThirteenthLoaf x = some();
        for (int i = 3; i < 8; i++) {
            x.customer(i, i, i % 2);
        }
        law(x, "wants 4; waits");
        for (int i = 2; i < 6; i++) {
            law(x, "wants " + i);
        }
        for (int i = 1; i < 8; i++) {
            x.sight(2, 1);
        }
        for (int i = 2; i < 8; i++) {
            x.claim(i, i / 3);
        }
        x.terms(2, 9999);
        tape(x, "wants 3 if day=2");
        x.put(9, 0, 0);
        return x;
    }

    private static ThirteenthLoaf then(ThirteenthLoaf x, Call call) {
        call.on(x);
        return x;
    }

    /** Changes are names of calls and what they answer then, by turns. */
    private static void dueLook(String name, Map<String, Long> before, Map<String, Long> after, Object[] changes) {
        for (int i = 0; i < changes.length; i += 2) {
            before.put((String) changes[i], ((Number) changes[i + 1]).longValue());
        }
        for (Map.Entry<String, Long> entry : before.entrySet()) {
            due(name + ", then " + entry.getKey(), after.get(entry.getKey()), entry.getValue());
        }
    }

    private static void refused(String name, Supplier<ThirteenthLoaf> scene, Call call, int by,
            Object... changes) {
        says("REFUSED by " + by);
        ThirteenthLoaf x = scene.get();
        due(name, call.on(x), by);
        Map<String, Long> before = Look.at(scene.get());
        // There is no -4.
        String counter = "count(" + (by > -4 ? 4 - by : 3 - by) + ")";
        before.put("status()", (long) by);
        before.put(counter, before.get(counter) + 1);
        for (int k = 0; k <= 1; k++) {
            before.put(counter + ", back to " + k, before.get(counter + ", back to " + k) + 1);
        }
        dueLook(name, before, Look.at(x), changes);
    }

    /** A call that is no REFUSED one, whatever it answers, changes nothing at all. */
    private static void unchanged(String name, Supplier<ThirteenthLoaf> scene, Call call, long want) {
        ThirteenthLoaf x = scene.get();
        due(name, call.on(x), want);
        dueLook(name, Look.at(scene.get()), Look.at(x), new Object[0]);
    }

    private static void customer() {
        int[][] wrong = {{-1, 0, 0}, {41, 0, 0}, {0, -1, 0}, {0, 10, 0}, {0, 0, -1}, {0, 0, 2}};
        for (int[] w : wrong) {
            refused("customer", RefusalsTest::some, x -> x.customer(w[0], w[1], w[2]), -1);
            refused("customer, full", RefusalsTest::full, x -> x.customer(w[0], w[1], w[2]), -1);
        }
        refused("customer, full", RefusalsTest::full, x -> x.customer(0, 0, 0), -5);
    }

    private static void put() {
        int[] most = {40, 9, 1, 9999, 999999};
        for (int what = 0; what < 5; what++) {
            int w = what;
            refused("put below " + w, RefusalsTest::some, x -> x.put(0, w, -1), -1);
            refused("put above " + w, RefusalsTest::some, x -> x.put(0, w, most[w] + 1), -1);
            refused("put nobody " + w, RefusalsTest::some, x -> x.put(3, w, most[w]), -2);
        }
        refused("put what 5", RefusalsTest::some, x -> x.put(0, 5, 0), -1);
        refused("put what -1", RefusalsTest::some, x -> x.put(0, -1, 0), -1);
        refused("put -1", RefusalsTest::full, x -> x.put(-1, 0, 0), -2);
        refused("put 8", RefusalsTest::full, x -> x.put(8, 0, 0), -2);
    }

    private static void terms() {
        int[] least = {2, 0, 0, 0, 0};
        int[] most = {20, 9, 9999, 999999, 999999};
        for (int what = 0; what < 5; what++) {
            int w = what;
            refused("terms below " + w, RefusalsTest::some, x -> x.terms(w, least[w] - 1), -1);
            refused("terms above " + w, RefusalsTest::some, x -> x.terms(w, most[w] + 1), -1);
        }
        refused("terms 5", RefusalsTest::some, x -> x.terms(5, 3), -1);
        refused("terms -1", RefusalsTest::some, x -> x.terms(-1, 3), -1);
    }

    private static void row() {
        refused("row", () -> then(some(), x -> x.end(0)), ThirteenthLoaf::row, -6);
        refused("row, full", () -> then(full(), x -> x.end(0)), ThirteenthLoaf::row, -6);
    }

    private static void lawWithoutRoom() {
        refused("law, full", RefusalsTest::full, ThirteenthLoaf::law, -5, "count(4)", 0,
                "count(4), back to 0", 0, "count(4), back to 1", 0, Look.TAPE, -6, Look.TAPE_FAULT, 0);
        refused("law, full, of nothing", () -> then(full(), x -> x.end(0)), ThirteenthLoaf::law, -5);
    }

    private static void lawWithAFault() {
        String[] texts = {"wants", "waits; ", "x", "  "};
        int[] faults = {5, 7, 0, 2};
        for (int i = 0; i < texts.length; i++) {
            String text = texts[i];
            refused("law '" + text + "'", () -> withTape(text), ThirteenthLoaf::law, -6,
                    "fault()", faults[i], "count(4)", 0, "count(4), back to 0", 0,
                    "count(4), back to 1", 0, Look.TAPE_FAULT, 0);
        }
        refused("law of nothing", () -> withTape(""), ThirteenthLoaf::law, -6, "fault()", 0);
    }

    private static ThirteenthLoaf withTape(String text) {
        ThirteenthLoaf x = some();
        tape(x, text);
        return x;
    }

    private static void force() {
        for (int law : new int[] {LOWEST, -2, 1, HIGHEST}) {
            refused("force " + law, RefusalsTest::some, x -> x.force(law), -2);
        }
        refused("force 6, full", RefusalsTest::full, x -> x.force(6), -2);
        refused("force -2, full", RefusalsTest::full, x -> x.force(-2), -2);
    }

    private static void sightAndClaim() {
        for (int many : new int[] {-1, 21}) {
            refused("sight", RefusalsTest::some, x -> x.sight(0, many), -1);
            refused("claim", RefusalsTest::some, x -> x.claim(0, many), -1);
            refused("sight, full", RefusalsTest::full, x -> x.sight(8, many), -1);
            refused("claim, full", RefusalsTest::full, x -> x.claim(8, many), -1);
        }
        refused("sight of nobody", RefusalsTest::some, x -> x.sight(3, 0), -2);
        refused("claim of nobody", RefusalsTest::some, x -> x.claim(3, 0), -2);
        refused("sight of nobody, full", RefusalsTest::full, x -> x.sight(8, 0), -2);
        refused("claim of nobody, full", RefusalsTest::full, x -> x.claim(-1, 0), -2);
        refused("sight, full", RefusalsTest::full, x -> x.sight(0, 5), -5);
        refused("claim, full", RefusalsTest::full, x -> x.claim(0, 5), -5);
    }

    private static void bakeThatCannotBe() {
        refused("bake -1", RefusalsTest::some, x -> x.bake(-1), -1);
        refused("bake 3", RefusalsTest::some, x -> x.bake(3), -1);
        // Law 1 lets each wait for all; the DAY is the last one, too.
        Supplier<ThirteenthLoaf> waiting = () -> then(full(), x -> x.force(1));
        refused("bake 1", waiting, x -> x.bake(1), -3);
        refused("bake 2", waiting, x -> x.bake(2), -3);
        refused("bake 0", waiting, x -> x.bake(0), -5);
        refused("bake 3, waiting", waiting, x -> x.bake(3), -1);
    }

    private static void bakeAboveTheMost() {
        for (int how = 0; how <= 2; how++) {
            int h = how;
            refused("bake, DAY", RefusalsTest::full, x -> x.bake(h), -5);
            refused("bake, HAD", () -> then(some(), x -> x.put(2, 3, 9999)), x -> x.bake(h), -5);
            refused("bake, BOUGHT", () -> then(some(), x -> x.put(2, 4, 999987)), x -> x.bake(h), -5);
            refused("bake, BAKED 0", () -> then(some(), x -> x.terms(3, 999985)), x -> x.bake(h), -5);
            refused("bake, BAKED 1", () -> then(some(), x -> x.terms(4, 999987)), x -> x.bake(h), -5);
        }
    }

    private static void queues() {
        refused("queues, seed -1", RefusalsTest::some, x -> x.queues(-1, 1), -1);
        refused("queues, seed 1,000,001", RefusalsTest::some, x -> x.queues(1000001, 1), -1);
        refused("queues, 0 days", RefusalsTest::some, x -> x.queues(0, 0), -1);
        refused("queues, 21 days", RefusalsTest::full, x -> x.queues(0, 21), -1);
        refused("queues, DAY", RefusalsTest::full, x -> x.queues(0, 1), -5);
        refused("queues, HAD", () -> then(some(), x -> x.put(2, 3, 9998)), x -> x.queues(0, 2), -5);
        refused("queues, BOUGHT", () -> then(some(), x -> x.put(2, 4, 999974)), x -> x.queues(0, 2), -5);
        refused("queues, BAKED 0", () -> then(some(), x -> x.terms(3, 999970)), x -> x.queues(0, 2), -5);
        refused("queues, BAKED 1", () -> then(some(), x -> x.terms(4, 999974)), x -> x.queues(0, 2), -5);
    }

    private static void imageAndBack() {
        for (int k : new int[] {LOWEST, -1, 2, HIGHEST}) {
            refused("image " + k, RefusalsTest::some, x -> x.image(k), -1);
            refused("back " + k, RefusalsTest::full, x -> x.back(k), -1);
        }
        refused("back 1", RefusalsTest::full, x -> x.back(1), -2);
    }

    private static void tapeThatCannotBe() {
        says("feed(), end(): NONE, and no REFUSED call");
        Supplier<ThirteenthLoaf> long381 = () -> withTape("wants 3 if day=2" + " ".repeat(365));
        unchanged("feed", long381, x -> x.feed(1, 2, 3, 4, 5), NONE);
        unchanged("end 382", long381, x -> x.end(382), NONE);
        unchanged("end -1", long381, x -> x.end(-1), NONE);
        unchanged("end 381", long381, x -> x.end(381), 381);
    }

    private static void askedWrongly() {
        says("NONE, and no REFUSED call");
        for (Supplier<ThirteenthLoaf> scene : scenes()) {
            unchanged("of", scene, x -> x.of(8, 0), NONE);
            unchanged("of", scene, x -> x.of(0, 6), NONE);
            unchanged("owed", scene, x -> x.owed(8), NOTHING);
            unchanged("waits", scene, x -> x.waits(0, 0), NONE);
            unchanged("blessed", scene, x -> x.blessed(0, 0), NONE);
            unchanged("served", scene, x -> x.served(8, 0), NONE);
            unchanged("best", scene, x -> x.best(10), NONE);
            unchanged("fairest", scene, x -> x.fairest(9), NONE);
            unchanged("year", scene, x -> x.year(30), NONE);
            unchanged("chances", scene, x -> x.chances(0, 21), NONE);
            unchanged("never", scene, x -> x.never(0, 5), NONE);
            unchanged("counts", scene, x -> x.counts(2, -1), NONE);
            unchanged("wrong", scene, x -> x.wrong(10), NONE);
            unchanged("drawn", scene, x -> x.drawn(8, 0), NONE);
            unchanged("count", scene, x -> x.count(16), NONE);
        }
    }

    private static void askedRightly() {
        says("what only asks changes nothing");
        for (Supplier<ThirteenthLoaf> scene : scenes()) {
            asks("of", scene, x -> x.of(0, 5));
            asks("owed", scene, x -> x.owed(0));
            asks("waits", scene, x -> x.waits(0, 1));
            asks("blessed", scene, x -> x.blessed(1000000, 0));
            asks("served", scene, x -> x.served(2, 1));
            asks("orders", scene, ThirteenthLoaf::orders);
            asks("best", scene, x -> x.best(2));
            asks("fairest", scene, x -> x.fairest(1));
            asks("year", scene, x -> x.year(-1));
            asks("chances", scene, x -> x.chances(0, 1));
            asks("never", scene, x -> x.never(0, 4));
            asks("counts", scene, x -> x.counts(1, -1));
            asks("wrong", scene, x -> x.wrong(1));
            asks("drawn", scene, x -> x.drawn(0, 1));
            asks("crumbs", scene, ThirteenthLoaf::crumbs);
            asks("fault", scene, ThirteenthLoaf::fault);
            asks("status", scene, ThirteenthLoaf::status);
            asks("count", scene, x -> x.count(5));
        }
    }

    private static void asks(String name, Supplier<ThirteenthLoaf> scene, Call call) {
        ThirteenthLoaf x = scene.get();
        long first = call.on(x);
        due(name + " again", call.on(x), first);
        dueLook(name, Look.at(scene.get()), Look.at(x), new Object[0]);
    }

    private static Iterable<Supplier<ThirteenthLoaf>> scenes() {
        return java.util.List.of(RefusalsTest::some, RefusalsTest::full, () -> then(full(), x -> x.force(1)));
    }
}
