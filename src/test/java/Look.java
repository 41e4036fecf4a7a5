import java.util.LinkedHashMap;
import java.util.Map;

/**
 * All that can be seen of an object, each answer by the call that asks for it: what stands, then
 * each LAW, then what the IMAGES and the TAPE hold. It uses the object up.
 */
final class Look {
    /** The TAPE's LAW, read with an IMAGE that has room for it. */
    static final String TAPE = "law() of what the tape held";
    static final String TAPE_FAULT = "fault() of what the tape held";
    private final ThirteenthLoaf x;
    private final Map<String, Long> seen = new LinkedHashMap<>();
    private String when = "";

    private Look(ThirteenthLoaf x) {
        this.x = x;
    }

    static Map<String, Long> at(ThirteenthLoaf x) {
        Look look = new Look(x);
        look.counts();
        look.latest();
        look.customers();
        look.answers();
        look.laws();
        look.images();
        return look.seen;
    }

    /** Asks for all that has to be worked out, and lets the object go on. */
    static void ask(ThirteenthLoaf x) {
        new Look(x).answers();
    }

    private void note(String call, long answer) {
        seen.put(call + when, answer);
    }

    private void counts() {
        for (int what = 0; what <= 15; what++) {
            note("count(" + what + ")", x.count(what));
        }
    }

    private void latest() {
        note("status()", x.status());
        note("fault()", x.fault());
        note("crumbs()", x.crumbs());
        for (int c = 0; c < 8; c++) {
            note("drawn(" + c + ", 0)", x.drawn(c, 0));
            note("drawn(" + c + ", 1)", x.drawn(c, 1));
        }
    }

    private void customers() {
        for (int c = 0; c < 8; c++) {
            for (int what = 0; what <= 5; what++) {
                note("of(" + c + ", " + what + ")", x.of(c, what));
            }
        }
    }

    private void answers() {
        for (int c = 0; c < 8; c++) {
            note("owed(" + c + ")", x.owed(c));
            note("served(" + c + ", 0)", x.served(c, 0));
            note("served(" + c + ", 1)", x.served(c, 1));
            note("waits(" + c + ", 0)", x.waits(c, 0));
            note("waits(0, " + c + ")", x.waits(0, c));
        }
        for (int what = 0; what <= 9; what++) {
            note("best(" + what + ")", x.best(what));
            note("fairest(" + what + ")", x.fairest(what));
            note("wrong(" + what + ")", x.wrong(what));
        }
        note("orders()", x.orders());
        note("chances(0, 0)", x.chances(0, 0));
        note("never(0, 4)", x.never(0, 4));
        note("blessed(1000000, 1)", x.blessed(1000000, 1));
        for (int i = -1; i <= 1; i++) {
            note("year(" + i + ")", x.year(i));
            note("counts(0, " + i + ")", x.counts(0, i));
            note("counts(1, " + i + ")", x.counts(1, i));
        }
    }

    private void laws() {
        for (int law = 0; law < 6; law++) {
            when = ", law " + law;
            note("force()", x.force(law));
            note("of(0, 5)", x.of(0, 5));
            note("of(1, 5)", x.of(1, 5));
            note("waits(0, 1)", x.waits(0, 1));
        }
    }

    private void images() {
        for (int k = 0; k <= 1; k++) {
            when = ", back to " + k;
            note("back()", x.back(k));
            counts();
            customers();
            note("counts(0, 0)", x.counts(0, 0));
            note("wrong(0)", x.wrong(0));
        }
        when = "";
        x.back(0);
        note(TAPE, x.law());
        note(TAPE_FAULT, x.fault());
    }
}
