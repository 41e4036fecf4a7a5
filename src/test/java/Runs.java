import java.util.ArrayList;
import java.util.List;

/** Makes the same calls on the program and on PlainBakery, and tells where they answer otherwise. */
final class Runs {
    static final List<String> NAMES = List.of("customer", "put", "of", "owed", "terms", "feed", "end",
            "row", "crumbs", "law", "fault", "force", "waits", "blessed", "served", "orders", "best",
            "fairest", "year", "chances", "never", "sight", "counts", "claim", "wrong", "forget", "bake",
            "queues", "drawn", "image", "back", "count", "status");

    final ThirteenthLoaf loaf = new ThirteenthLoaf();
    final PlainBakery plain = new PlainBakery();
    final List<String> calls = new ArrayList<>();
    boolean differs;

    /** The program's answer; a difference is printed with all calls that led to it. */
    long call(String name, int... a) {
        long got = ofProgram(name, a);
        long due = ofPlain(name, a);
        StringBuilder text = new StringBuilder(name).append('(');
        for (int i = 0; i < a.length; i++) {
            text.append(i > 0 ? ", " : "").append(a[i]);
        }
        calls.add(text.append(") -> ").append(got).toString());
        if (got != due && !differs) {
            differs = true;
            System.out.println(String.join("\n", calls));
            System.out.println("due is " + due);
        }
        return got;
    }

    /** Brings a text onto the TAPE. */
    void text(String text) {
        call("end", 0);
        int[] bytes = new int[(text.length() + 19) / 20 * 20];
        for (int i = 0; i < text.length(); i++) {
            bytes[i] = text.charAt(i);
        }
        for (int i = 0; i < bytes.length; i += 20) {
            call("feed", four(bytes, i), four(bytes, i + 4), four(bytes, i + 8), four(bytes, i + 12),
                    four(bytes, i + 16));
        }
        call("end", text.length());
    }

    private static int four(int[] bytes, int at) {
        return bytes[at] << 24 | bytes[at + 1] << 16 | bytes[at + 2] << 8 | bytes[at + 3];
    }

    long ofProgram(String name, int[] a) {
        switch (name) {
            case "customer": return loaf.customer(a[0], a[1], a[2]);
            case "put": return loaf.put(a[0], a[1], a[2]);
            case "of": return loaf.of(a[0], a[1]);
            case "owed": return loaf.owed(a[0]);
            case "terms": return loaf.terms(a[0], a[1]);
            case "feed": return loaf.feed(a[0], a[1], a[2], a[3], a[4]);
            case "end": return loaf.end(a[0]);
            case "row": return loaf.row();
            case "crumbs": return loaf.crumbs();
            case "law": return loaf.law();
            case "fault": return loaf.fault();
            case "force": return loaf.force(a[0]);
            case "waits": return loaf.waits(a[0], a[1]);
            case "blessed": return loaf.blessed(a[0], a[1]);
            case "served": return loaf.served(a[0], a[1]);
            case "orders": return loaf.orders();
            case "best": return loaf.best(a[0]);
            case "fairest": return loaf.fairest(a[0]);
            case "year": return loaf.year(a[0]);
            case "chances": return loaf.chances(a[0], a[1]);
            case "never": return loaf.never(a[0], a[1]);
            case "sight": return loaf.sight(a[0], a[1]);
            case "counts": return loaf.counts(a[0], a[1]);
            case "claim": return loaf.claim(a[0], a[1]);
            case "wrong": return loaf.wrong(a[0]);
            case "forget": return loaf.forget();
            case "bake": return loaf.bake(a[0]);
            case "queues": return loaf.queues(a[0], a[1]);
            case "drawn": return loaf.drawn(a[0], a[1]);
            case "image": return loaf.image(a[0]);
            case "back": return loaf.back(a[0]);
            case "count": return loaf.count(a[0]);
            case "status": return loaf.status();
            default: throw new IllegalArgumentException(name);
        }
    }

    private long ofPlain(String name, int[] a) {
        switch (name) {
            case "customer": return plain.customer(a[0], a[1], a[2]);
            case "put": return plain.put(a[0], a[1], a[2]);
            case "of": return plain.of(a[0], a[1]);
            case "owed": return plain.owed(a[0]);
            case "terms": return plain.terms(a[0], a[1]);
            case "feed": return plain.feed(a[0], a[1], a[2], a[3], a[4]);
            case "end": return plain.end(a[0]);
            case "row": return plain.row();
            case "crumbs": return plain.crumbs();
            case "law": return plain.law();
            case "fault": return plain.fault();
            case "force": return plain.force(a[0]);
            case "waits": return plain.waits(a[0], a[1]);
            case "blessed": return plain.blessed(a[0], a[1]);
            case "served": return plain.served(a[0], a[1]);
            case "orders": return plain.orders();
            case "best": return plain.best(a[0]);
            case "fairest": return plain.fairest(a[0]);
            case "year": return plain.year(a[0]);
            case "chances": return plain.chances(a[0], a[1]);
            case "never": return plain.never(a[0], a[1]);
            case "sight": return plain.sight(a[0], a[1]);
            case "counts": return plain.counts(a[0], a[1]);
            case "claim": return plain.claim(a[0], a[1]);
            case "wrong": return plain.wrong(a[0]);
            case "forget": return plain.forget();
            case "bake": return plain.bake(a[0]);
            case "queues": return plain.queues(a[0], a[1]);
            case "drawn": return plain.drawn(a[0], a[1]);
            case "image": return plain.image(a[0]);
            case "back": return plain.back(a[0]);
            case "count": return plain.count(a[0]);
            case "status": return plain.status();
            default: throw new IllegalArgumentException(name);
        }
    }
}
