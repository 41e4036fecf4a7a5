import java.util.Random;

/** Runs of calls by chance (always the same ones) on the program and on PlainBakery. */
public final class RandomRunsTest {
    private final Random random;
    private final Runs runs = new Runs();
    private final LawTexts laws;
    /** With many CUSTOMERS the plain answers take long, so few runs have them. */
    private final int crowd;

    private RandomRunsTest(long seed) {
        random = new Random(seed);
        laws = new LawTexts(random);
        int kind = random.nextInt(40);
        crowd = kind == 0 ? 8 : kind < 4 ? 7 : kind < 12 ? 6 : 1 + random.nextInt(5);
    }

    public static void main(String[] args) {
        int from = args.length > 0 ? Integer.parseInt(args[0]) : 1;
        int many = args.length > 1 ? Integer.parseInt(args[1]) : 400;
        int wrong = 0;
        for (int seed = from; seed < from + many && wrong < 3; seed++) {
            RandomRunsTest test = new RandomRunsTest(seed);
            test.run();
            if (test.runs.differs) {
                wrong++;
                System.out.println("in the run of seed " + seed);
            }
        }
        System.out.println(wrong == 0 ? many + " runs as due" : "runs are not as due");
        System.exit(wrong == 0 ? 0 : 1);
    }

    private void run() {
        int most = crowd > 6 ? 80 : crowd > 5 ? 160 : 512;
        if (random.nextInt(4) == 0) {
            runs.call("terms", 0, 2 + random.nextInt(6));
        }
        for (int i = 0; i < crowd && random.nextInt(9) > 0; i++) {
            aCustomer();
        }
        if (random.nextInt(3) > 0) {
            aLaw();
        }
        while (runs.calls.size() < most - 30 && !runs.differs) {
            anyCall();
        }
    }

    private int near(int least, int most) {
        int kind = random.nextInt(24);
        if (kind == 0) {
            return least - 1;
        }
        if (kind == 1) {
            return most + 1;
        }
        if (kind == 2) {
            return random.nextBoolean() ? Integer.MAX_VALUE : Integer.MIN_VALUE;
        }
        return kind == 3 ? most : kind == 4 ? least : least + random.nextInt(most - least + 1);
    }

    private int someone() {
        return near(0, Math.max(0, runs.loaf.count(0) - 1));
    }

    private void aCustomer() {
        int most = random.nextBoolean() ? 9 : 40;
        runs.call("customer", random.nextInt(most + 1), random.nextInt(random.nextBoolean() ? 2 : 10),
                random.nextInt(3) / 2);
    }

    private void aLaw() {
        runs.text(laws.law());
        runs.call("law");
        runs.call("fault");
        runs.call("force", runs.loaf.count(1) - 1);
    }

    private void aRow() {
        StringBuilder bytes = new StringBuilder();
        for (int i = random.nextInt(4); i >= 0; i--) {
            bytes.append((char) random.nextInt(44)).append((char) random.nextInt(11))
                    .append((char) random.nextInt(random.nextInt(4) == 0 ? 3 : 2));
        }
        bytes.setLength(Math.max(0, bytes.length() - random.nextInt(4)));
        if (runs.loaf.count(0) + bytes.length() / 3 <= crowd || crowd == 8) {
            runs.text(bytes.toString());
            runs.call("row");
            runs.call("crumbs");
        }
    }

    private void anyCall() {
        String name = Runs.NAMES.get(random.nextInt(Runs.NAMES.size()));
        switch (name) {
            case "customer": manyOrFewer(); break;
            case "put": aTrait(); break;
            case "of": runs.call(name, someone(), near(0, 5)); break;
            case "owed": runs.call(name, someone()); break;
            case "terms": aTerm(); break;
            case "feed": someFeed(); break;
            case "end": runs.call(name, near(0, 40)); break;
            case "row": aRow(); break;
            case "law": lawOrNone(); break;
            case "force": runs.call(name, near(-1, Math.max(0, runs.loaf.count(1) - 1))); break;
            case "waits": runs.call(name, someone(), someone()); break;
            case "blessed": runs.call(name, near(1, random.nextBoolean() ? 99 : 1000000), near(0, 1)); break;
            case "served": runs.call(name, someone(), near(0, 1)); break;
            case "best":
            case "wrong": allOf(name, 2); break;
            case "fairest": allOf(name, 1); break;
            case "year": wholeYear(); break;
            case "chances": runs.call(name, someone(), near(0, random.nextInt(6) == 0 ? 20 : 3)); break;
            case "never": runs.call(name, someone(), near(1, 4)); break;
            case "sight":
            case "claim": runs.call(name, someone(), near(0, random.nextInt(6) == 0 ? 20 : 3)); break;
            case "counts": someCounts(); break;
            case "forget": if (random.nextInt(4) == 0) { runs.call(name); } break;
            case "bake": runs.call(name, near(0, 2)); break;
            case "queues": runs.call(name, near(0, 1000000), near(1, 20)); break;
            case "drawn": runs.call(name, near(0, 7), near(0, 1)); break;
            case "image":
            case "back": runs.call(name, near(0, 1)); break;
            case "count": runs.call(name, near(0, 15)); break;
            default: runs.call(name);
        }
        runs.call("status");
    }

    private void manyOrFewer() {
        if (random.nextInt(3) == 0) {
            runs.call("customer", near(-1, 0) - 1, near(0, 9), near(0, 1));
        } else if (runs.loaf.count(0) < crowd || crowd == 8) {
            aCustomer();
        }
    }

    private void aTrait() {
        int what = near(0, 4);
        int[] usual = {40, 9, 1, 6, 60};
        int[] most = {40, 9, 1, 9999, 999999};
        int top = what < 0 || what > 4 ? 9 : random.nextInt(6) == 0 ? most[what] : usual[what];
        runs.call("put", someone(), what, random.nextInt(9) == 0 ? top : near(0, top));
    }

    private void aTerm() {
        int what = near(0, 4);
        int[] usual = {20, 9, 30, 99, 99};
        int[] most = {20, 9, 9999, 999999, 999999};
        int top = what < 0 || what > 4 ? 9 : random.nextInt(6) == 0 ? most[what] : usual[what];
        int value = random.nextInt(9) == 0 ? top : near(what == 0 ? 2 : 0, top);
        if (what == 1 && random.nextBoolean()) {
            value = 0;
        }
        // So near to the most that a few DAYS lead beyond it.
        runs.call("terms", what, value == top && what > 1 ? top - random.nextInt(9) : value);
    }

    private void someFeed() {
        for (int i = random.nextInt(30) == 0 ? 21 : 1; i > 0; i--) {
            runs.call("feed", random.nextInt(), random.nextInt(), random.nextInt(), random.nextInt(), 1);
        }
    }

    private void lawOrNone() {
        if (random.nextInt(3) == 0) {
            runs.call("law");
        } else {
            aLaw();
        }
    }

    private void allOf(String name, int ahead) {
        for (int what = -1; what <= ahead + runs.loaf.count(0); what++) {
            runs.call(name, what);
        }
        runs.call(name, near(0, 9));
    }

    private void wholeYear() {
        int days = (int) runs.call("year", -1);
        if (random.nextInt(3) == 0 || days < 6) {
            for (int i = -2; i <= days; i++) {
                runs.call("year", i);
            }
        }
        runs.call("year", near(0, 29));
    }

    private void someCounts() {
        int oven = near(0, 1);
        int many = (int) runs.call("counts", oven, -1);
        runs.call("counts", oven, near(0, Math.max(0, many)));
    }
}
