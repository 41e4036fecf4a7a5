/** 'Terms' IV and the constants, sentence by sentence: QUEUES by DRAWS, ROWS, IMAGES. */
public final class BoundsOfTerms4Test extends Kit {
    public static void main(String[] args) {
        seedsFrom0ToAMillion();
        drawsModulo1000003();
        drawsThatAreSmall();
        drawsOfAll();
        drawsGoOnFromDayToDay();
        whoCanBeServedNext();
        ifThereIsNone();
        hadGoesOn();
        boughtAndBakedGoOn();
        dayGoesOn();
        onPaper();
        rowByThrees();
        crumbsThatCannotBe();
        crumbsAtTheEnd();
        crumbsWithoutRoom();
        imagesKeepAllElse();
        imagesKeepAsManyAsThereCanBe();
        imagesKeepAboutWhom();
        imagesKeepEachText();
        imagesDoNotKeep();
        imagesStay();
        constants();
        finish();
    }

    private static void seedsFrom0ToAMillion() {
        says("s is the SEED (0 .. 1,000,000)");
        ThirteenthLoaf x = with(13);
        due("0", x.queues(0, 1), 1);
        due("1,000,000", x.queues(1000000, 1), 1);
        for (int far : new int[] {LOWEST, -1, 1000001, HIGHEST}) {
            due("seed " + far, x.queues(far, 1), -1);
        }
    }

    /** By which order two come on the first of so many days. */
    private static int order(int seed, int days) {
        ThirteenthLoaf x = with(1, 1);
        due("queues", x.queues(seed, days), days * 2 / 13);
        return digits(x.drawn(0, 1), x.drawn(1, 1));
    }

    private static void drawsModulo1000003() {
        says("s becomes (s times 1103 and 12345) modulo 1,000,003, it is s modulo m");
        due("0: 12,345 is odd, the second one", order(0, 1), 10);
        due("1: 13,448 is even, the first one", order(1, 1), 1);
        // Without the modulo it would be 1,011,663.
        due("906: 11,660", order(906, 1), 1);
        due("1,000,000: 9,036", order(1000000, 1), 1);
        due("870,345: just 0", order(870345, 1), 1);
        ThirteenthLoaf x = with(1, 1, 1);
        x.queues(870345, 1);
        // 0, then 12,345 of the two that are left.
        due("on from 0", digits(x.drawn(0, 1), x.drawn(1, 1), x.drawn(2, 1)), 21);
    }

    private static void drawsThatAreSmall() {
        says("a DRAW of m: s becomes (s times 1103 and 12345) modulo 1,000,003, it is s modulo m");
        int[] seeds = {870345, 413408, 956474, 499537, 42600, 585666, 128729, 671795};
        // From draw 1 on the next draws are 13448, 14551 .., of the seven others 1, 5, 2, 6, 3, 0, 4.
        int[] seconds = {5, 2, 6, 2, 7, 3, 0, 4};
        for (int draw = 0; draw < 8; draw++) {
            ThirteenthLoaf x = with(1, 1, 1, 1, 1, 1, 1, 1);
            x.queues(seeds[draw], 1);
            due("the draw is just " + draw, x.drawn(draw, 1), 0);
            due("the second behind " + draw, x.drawn(seconds[draw], 1), 1);
        }
    }

    private static void drawsOfAll() {
        says("one by one a DRAW of all who can be served next .., lower ones first");
        ThirteenthLoaf x = with(1, 1, 1, 1, 1, 1, 1, 1);
        x.queues(0, 1);
        // 12345, 628841, 621889, 953857, 113460, 158350, 671873: of 8, 7 .. they are 1, 3, 1, 2, 0, 1, 1.
        int[] order = {1, 4, 2, 5, 0, 6, 7, 3};
        for (int place = 0; place < 8; place++) {
            due("who is " + place, x.drawn(order[place], 1), place);
        }
    }

    private static void drawsGoOnFromDayToDay() {
        says("Each day one by one a DRAW: of one, too, and on from day to day");
        // From 8: 21169 (odd), 361683 of one, 947500 (even) on the second day.
        due("the first day", order(8, 1), 10);
        due("the second day", order(8, 2), 1);
        // From 11: 24478 (even), 11498 of one, 694603 (odd).
        due("the first day from 11", order(11, 1), 1);
        due("the second day from 11", order(11, 2), 10);
    }

    private static void whoCanBeServedNext() {
        says("all who can be served next (who WAIT for nobody still to come)");
        ThirteenthLoaf x = with(1, 1, 1);
        rule(x, "waits if who=1 and other=0");
        x.queues(0, 1);
        // 12345 of 0 and 2 is 2; 628841 of 0 alone; then 1, who waits no more.
        due("of two, of one, of one", digits(x.drawn(0, 1), x.drawn(1, 1), x.drawn(2, 1)), 120);
        rule(x, "waits if who<other");
        x.queues(1, 1);
        due("one at a time", digits(x.drawn(0, 1), x.drawn(1, 1), x.drawn(2, 1)), 210);
    }

    private static void ifThereIsNone() {
        says("if there is none, of all still to come");
        ThirteenthLoaf x = with(1, 1, 1);
        rule(x, "waits");
        x.queues(0, 1);
        // 12345 of three is the first, 628841 of two the second.
        due("as if nobody waits", digits(x.drawn(0, 1), x.drawn(1, 1), x.drawn(2, 1)), 21);
        rule(x, "waits if who+other=1");
        x.queues(0, 1);
        // 2 alone can be served; then 628841 of 0 and 1 is 1; then 0.
        due("two wait for one another", digits(x.drawn(0, 1), x.drawn(1, 1), x.drawn(2, 1)), 210);
    }

    private static void hadGoesOn() {
        says("HAD .. go on with it, and what each then WANTS");
        ThirteenthLoaf x = with(13, 13);
        rule(x, "wants 0 if had>0");
        due("one each", x.queues(0, 20), 2);
        due("the first one's", x.drawn(0, 0), 1);
        due("the second one's", x.drawn(1, 0), 1);
        ThirteenthLoaf y = with(5, 8);
        rule(y, "waits if who=0 and had=0");
        y.queues(1, 1);
        due("he waits", y.drawn(0, 1), 1);
        y.queues(1, 2);
        // He had the 13th; 13448, 845447 of one each, 537590 (even) of both.
        due("he waits no more", y.drawn(0, 1), 0);
        ThirteenthLoaf z = with(13);
        z.put(0, 3, 9997);
        due("up to the most", z.queues(0, 2), 2);
        due("above the most", z.queues(0, 3), -5);
        z.put(0, 3, 9999);
        due("above the most on the first day", z.queues(0, 1), -5);
    }

    private static void boughtAndBakedGoOn() {
        says("HAD and BOUGHT, BAKED .. go on with it");
        ThirteenthLoaf x = with(1);
        due("12 loaves", x.queues(0, 12), 0);
        due("13 loaves", x.queues(0, 13), 1);
        x.put(0, 4, 999987);
        due("bought up to the most", x.queues(0, 12), 0);
        due("bought above the most", x.queues(0, 13), -5);
        x.put(0, 4, 0);
        x.terms(3, 999987);
        due("baked up to the most", x.queues(0, 12), 1);
        due("baked above the most", x.queues(0, 13), -5);
        x.terms(3, 0);
        x.put(0, 2, 1);
        x.terms(4, 999987);
        due("baked by OVEN 1 up to the most", x.queues(0, 12), 1);
        due("baked by OVEN 1 above the most", x.queues(0, 13), -5);
    }

    private static void dayGoesOn() {
        says("DAY go on with it, and what each then WANTS");
        ThirteenthLoaf x = with(0);
        rule(x, "wants 13 if day=3");
        due("three days", x.queues(0, 3), 0);
        due("four days", x.queues(0, 4), 1);
        x.terms(2, 9979);
        due("up to the last DAY", x.queues(0, 20), 0);
        x.terms(2, 9980);
        due("above the last DAY", x.queues(0, 20), -5);
        due("nobody, above the last DAY", onLastDay(), -5);
    }

    private static int onLastDay() {
        ThirteenthLoaf x = new ThirteenthLoaf();
        x.terms(2, 9999);
        return x.queues(0, 1);
    }

    private static void onPaper() {
        says("QUEUES with a SEED, n days, on paper");
        ThirteenthLoaf x = new ThirteenthLoaf();
        x.customer(13, 0, 0);
        x.customer(13, 0, 1);
        due("20 days", x.queues(0, 20), 40);
        due("HAD, BOUGHT", x.of(0, 3) + x.of(0, 4) + x.of(1, 3) + x.of(1, 4), 0);
        due("DAY, BAKED", x.count(13) + x.count(14) + x.count(15), 0);
        due("20 days again", x.queues(0, 20), 40);
    }

    private static void rowByThrees() {
        says("A ROW of CUSTOMERS: the TAPE's bytes by threes: BASE, RANK, OVEN");
        ThirteenthLoaf x = new ThirteenthLoaf();
        bytes(x, 7, 3, 1, 40, 9, 0);
        due("two came", x.row(), 2);
        due("no crumbs", x.crumbs(), 0);
        due("the first", digits(x.of(0, 0), x.of(0, 1), x.of(0, 2)), 731);
        due("the second", x.of(1, 0) * 100 + x.of(1, 1) * 10 + x.of(1, 2), 4090);
    }

    private static void crumbsThatCannotBe() {
        says("one that can't be .. is CRUMBS: none");
        ThirteenthLoaf x = new ThirteenthLoaf();
        bytes(x, 41, 0, 0, 1, 1, 1, 0, 10, 0, 2, 2, 0, 0, 0, 2);
        due("two came", x.row(), 2);
        due("three crumbs", x.crumbs(), 3);
        due("the second one that can be", x.of(1, 0), 2);
        bytes(x, 255, 255, 255);
        due("none came", x.row(), 0);
        due("not refused", x.status(), 0);
        due("one crumb", x.crumbs(), 1);
    }

    private static void crumbsAtTheEnd() {
        says("one within which the TAPE ends .. is CRUMBS: none");
        for (int length = 1; length <= 7; length++) {
            ThirteenthLoaf x = new ThirteenthLoaf();
            bytes(x, 1, 1, 1, 1, 1, 1, 1);
            x.end(length);
            due("came of " + length, x.row(), length / 3);
            due("crumbs of " + length, x.crumbs(), length % 3 == 0 ? 0 : 1);
            due("customers of " + length, x.count(0), length / 3);
        }
    }

    private static void crumbsWithoutRoom() {
        says("one for which there is no room is CRUMBS: none");
        ThirteenthLoaf x = new ThirteenthLoaf();
        for (int i = 0; i < 20; i++) {
            x.feed(0x01010101, 0x01010101, 0x01010101, 0x01010101, 0x01010101);
        }
        due("eight of a whole TAPE came", x.row(), 8);
        // 133 threes and one byte more.
        due("all others are crumbs", x.crumbs(), 126);
        due("the TAPE is empty", x.count(4), 0);
        bytes(x, 1, 1, 1, 1);
        due("no room at all", x.row(), 0);
        due("two crumbs", x.crumbs(), 2);
        due("eight", x.count(0), 8);
    }

    private static ThirteenthLoaf kept() {
        ThirteenthLoaf x = new ThirteenthLoaf();
        x.customer(5, 3, 1);
        x.put(0, 3, 4);
        x.put(0, 4, 66);
        x.terms(0, 12);
        x.terms(1, 2);
        x.terms(2, 30);
        x.terms(3, 400);
        x.terms(4, 500);
        rule(x, "wants 7");
        x.sight(0, 1);
        x.claim(0, 2);
        x.claim(0, 3);
        x.image(1);
        return x;
    }

    private static void imagesKeepAllElse() {
        says("IMAGES 0, 1 keep all but ..; BACK to one all that it keeps is as it was then");
        ThirteenthLoaf x = kept();
        for (int what = 0; what < 5; what++) {
            x.put(0, what, 1);
            x.terms(what, 5);
        }
        x.customer(1, 1, 1);
        rule(x, "wants 9");
        x.sight(0, 0);
        x.sight(1, 0);
        x.forget();
        x.sight(1, 20);
        due("back", x.back(1), 0);
        int[] traits = {5, 3, 1, 4, 66, 7};
        for (int what = 0; what < traits.length; what++) {
            due("of " + what, x.of(0, what), traits[what]);
        }
        int[] terms = {12, 2, 30, 400, 500};
        for (int what = 0; what < terms.length; what++) {
            due("term " + what, x.count(11 + what), terms[what]);
        }
        due("customers", x.count(0), 1);
        due("nobody else", x.of(1, 0), NONE);
        due("laws", x.count(1), 1);
        due("in force", x.count(10), 0);
        due("no other law", x.force(1), -2);
        due("sights", x.count(2), 1);
        due("claims", x.count(3), 2);
        due("the claims can't both be so", x.wrong(0), 2);
        // Of 7 loaves one is BLESSED behind 5 to 11 and 18 to 24 of the 25 of a ROUND.
        due("the sight", x.counts(1, NONE), 14);
        due("its first", x.counts(1, 0), 5);
    }

    private static void imagesKeepAsManyAsThereCanBe() {
        says("IMAGES 0, 1 keep all but ..: each of 8 CUSTOMERS, 6 LAWS, 8 SIGHTS, 8 CLAIMS");
        for (int odd = 0; odd < 8; odd++) {
            ThirteenthLoaf x = with(0, 0, 0, 0, 0, 0, 0, 0);
            x.put(odd, 0, 7);
            for (int i = 0; i < 8; i++) {
                x.sight(i, i == odd ? 20 : 0);
                x.claim(i, i == odd ? 20 : 0);
            }
            for (int i = 0; i < 6; i++) {
                law(x, i == odd ? "waits" : "wants base");
            }
            x.image(0);
            x.put(odd, 0, 1);
            x.forget();
            for (int i = 0; i < 8; i++) {
                x.sight(i, 0);
                x.claim(i, 0);
            }
            x.back(0);
            due("customer " + odd, x.of(odd, 0), 7);
            due("sight " + odd, x.counts(0, NONE), 0);
            due("claim " + odd, x.wrong(0), 1);
            x.force(Math.min(odd, 5));
            due("law " + odd, x.orders(), odd < 6 ? 0 : 40320);
        }
    }

    private static void imagesKeepAboutWhom() {
        says("IMAGES 0, 1 keep all but ..: about whom each of 8 SIGHTS, 8 CLAIMS is");
        ThirteenthLoaf x = with(1, 1, 1, 1, 1, 1, 1, 1);
        x.terms(0, 8);
        for (int i = 0; i < 8; i++) {
            x.sight(i, i == 7 ? 1 : 0);
            x.claim(i, 0);
        }
        x.image(1);
        x.forget();
        for (int i = 0; i < 8; i++) {
            x.sight(0, 0);
            x.claim(0, 0);
        }
        due("counts with 0 alone", x.counts(0, NONE), 7);
        due("claims of 0 alone", x.wrong(0), 0);
        x.back(1);
        due("counts", x.counts(0, NONE), 1);
        due("the count", x.counts(0, 0), 0);
        due("the last one has a blessed loaf", x.wrong(0), 1);
        due("by every order", x.wrong(1), 40320);
    }

    private static void imagesKeepEachText() {
        says("IMAGES 0, 1 keep all but ..: the TEXTS of 6 LAWS, also if others were read since");
        ThirteenthLoaf x = with(1);
        x.image(0);
        for (int i = 0; i < 6; i++) {
            law(x, "wants 1" + i);
        }
        x.image(1);
        x.back(0);
        for (int i = 0; i < 6; i++) {
            due("read again", law(x, "wants 2" + i), i);
        }
        x.back(1);
        for (int i = 0; i < 6; i++) {
            x.force(i);
            due("law " + i + " is as it was", x.of(0, 5), 10 + i);
        }
    }

    private static void imagesDoNotKeep() {
        says("all but the TAPE, FAULT, CRUMBS, the latest QUEUES");
        ThirteenthLoaf x = kept();
        law(x, "wants 7 7");
        bytes(x, 41, 41);
        x.row();
        x.put(0, 0, 12);
        x.force(NONE);
        x.queues(0, 3);
        bytes(x, 1, 2, 3, 4, 5);
        due("back", x.back(1), 0);
        due("the TAPE stays", x.count(4), 5);
        due("FAULT stays", x.fault(), 8);
        due("CRUMBS stay", x.crumbs(), 1);
        // Behind 500, the end of 20 ROUNDS, 36 loaves: the 12th and 25th of a ROUND.
        due("the latest QUEUES stay", x.drawn(0, 0), 2);
        due("refusals stay", x.count(9), 1);
    }

    private static void imagesStay() {
        says("(IMAGES stay)");
        ThirteenthLoaf x = with(1);
        x.image(0);
        x.customer(2, 2, 0);
        x.image(1);
        x.customer(3, 3, 1);
        for (int i = 0; i < 3; i++) {
            x.put(0, 0, 9);
            x.terms(0, 2 + i);
            due("back to 0", x.back(0), 0);
            due("as in 0", digits(x.count(0), x.of(0, 0)), 11);
            due("dozen as in 0", x.count(11), 13);
            x.put(0, 0, 8);
            due("back to 1", x.back(1), 0);
            due("as in 1", digits(x.count(0), x.of(0, 0), x.of(1, 0)), 212);
        }
        x.put(0, 0, 7);
        x.image(0);
        x.put(0, 0, 6);
        x.back(0);
        due("kept anew", digits(x.count(0), x.of(0, 0)), 27);
        x.back(1);
        due("the other one as it was", digits(x.count(0), x.of(0, 0)), 21);
    }

    private static void constants() {
        says("`NONE = -1`: There is none. `NOTHING = -1000000000`");
        due("NONE", ThirteenthLoaf.NONE, -1);
        due("NOTHING", ThirteenthLoaf.NOTHING, -1000000000);
    }
}
