/** Promises 1 to 34: each sentence that names a boundary case, one by one. */
public final class BoundsOfPromisesTest extends Kit {
    private static final int[] FAR = {LOWEST, LOWEST + 1, -1000000000, -2, HIGHEST - 1, HIGHEST};

    public static void main(String[] args) {
        promise1NobodyIsThere();
        promise2TheNumber();
        promise3WhatItWas();
        promise3WhatCannotBe();
        promise4WhatCannotBe();
        promise5Nothing();
        promise6WhatCannotBe();
        promise7TwentyBytes();
        promise7MoreThan400();
        promise8FirstBytesAlone();
        promise8CutWithinAToken();
        promise8NotSoMany();
        promise9TheTapeIsEmptyThen();
        promise9TheTapeIsEmpty();
        promise10TheLatestNotRefused();
        promise11TheTapeIsEmptyThen();
        promise11NoRoomAheadOfReading();
        promise11BlanksAlone();
        promise12TheLatestThatRead();
        promise13WhichWas();
        promise13NoSuch();
        promise14None();
        promise15FromOneToAMillion();
        promise16FirstOfHisLoaves();
        promise17OnADay();
        promise18NoOrder();
        promise18NotSoMany();
        promise19NoOrder();
        promise19NotSoMany();
        promise20HowMany();
        promise20FewerThanBefore();
        promise20NotIn30();
        promise21SoMany();
        promise22FromOneToFour();
        promise22NoneAtAll();
        promise22OnFromDay();
        promise23HowMany();
        promise24HowManyAndTheIth();
        promise25HowMany();
        promise26NoOrder();
        promise26NotSoMany();
        promise27HowManyThereWere();
        promise28ADayGoesBy();
        promise28AsToldByNumber();
        promise28NoSuchOrder();
        promise28AboveItsMost();
        promise28AboveItsMostByAnOrder();
        promise29FromOneToTwenty();
        promise29TheLatestStay();
        promise30BehindTheLatest();
        promise30None();
        promise31Kept();
        promise32NotKept();
        promise33NothingAndAll();
        promise33Others();
        promise33Refused();
        promise34TheLatestCall();
        promise34NotRefused();
        promise34AheadOfAny();
        finish();
    }

    private static ThirteenthLoaf eight(int base) {
        return with(base, base, base, base, base, base, base, base);
    }

    private static void promise1NobodyIsThere() {
        says("Promise 1: No CUSTOMERS");
        ThirteenthLoaf x = new ThirteenthLoaf();
        due("of", x.of(0, 0), NONE);
        due("wants", x.of(0, 5), NONE);
        due("owed", x.owed(0), NOTHING);
        due("waits", x.waits(0, 1), NONE);
        due("served", x.served(0, 0), NONE);
        due("chances", x.chances(0, 0), NONE);
        due("never", x.never(0, 1), NONE);
        due("drawn", x.drawn(0, 0), NONE);
        due("best", x.best(0), 0);
        due("best in orders", x.best(1), 1);
        due("best's first", x.best(2), NONE);
        due("fairest", x.fairest(0), 0);
        due("fairest's first", x.fairest(1), NONE);
        due("wrong", x.wrong(0), 0);
        due("wrong in orders", x.wrong(1), 1);
        due("wrong's first", x.wrong(2), NONE);
        due("year", x.year(NONE), NONE);
        due("year's first", x.year(0), NONE);
        due("counts", x.counts(1, NONE), 13);
        due("forget", x.forget(), 0);
        due("crumbs", x.crumbs(), 0);
        due("fault", x.fault(), NONE);
        due("status", x.status(), 0);
        due("put", x.put(0, 0, 0), -2);
        due("sight", x.sight(0, 0), -2);
        due("claim", x.claim(0, 0), -2);
        for (int how = 0; how <= 2; how++) {
            due("bake " + how, x.bake(how), 0);
            due("the day goes by", x.count(13), how + 1);
        }
        due("queues", x.queues(0, 20), 0);
        due("drawn of nobody", x.drawn(0, 1), NONE);
    }

    private static void promise2TheNumber() {
        says("Promise 2: A CUSTOMER: the number. -1; -5");
        ThirteenthLoaf x = new ThirteenthLoaf();
        due("refused, no number is lost", x.customer(41, 0, 0), -1);
        due("the first", x.customer(1, 0, 0), 0);
        bytes(x, 1, 1, 1, 2, 2, 1);
        x.row();
        due("behind a row", x.customer(3, 0, 0), 3);
        x.image(0);
        x.customer(4, 0, 0);
        x.back(0);
        due("behind BACK", x.customer(5, 0, 0), 4);
    }

    private static void promise3WhatItWas() {
        says("Promise 3: BASE (what 0), RANK (1), OVEN (2), HAD (3), BOUGHT (4): what it was");
        ThirteenthLoaf x = eight(1);
        int[] values = {40, 9, 1, 9999, 999999};
        for (int what = 0; what < 5; what++) {
            due("of the last, " + what, x.put(7, what, values[what]), what == 0 ? 1 : 0);
            due("the same again, " + what, x.put(7, what, values[what]), values[what]);
        }
        for (int what = 0; what < 5; what++) {
            due("is as put, " + what, x.of(7, what), values[what]);
            due("of the one ahead, " + what, x.of(6, what), what == 0 ? 1 : 0);
        }
    }

    private static void promise3WhatCannotBe() {
        says("Promise 3: -1; -2");
        ThirteenthLoaf x = with(1);
        due("what -1", x.put(0, -1, 0), -1);
        due("what 5", x.put(0, 5, 0), -1);
        for (int far : FAR) {
            due("what " + far, x.put(0, far, 0), -1);
            due("customer " + far, x.put(far, 4, 0), -2);
        }
    }

    private static void promise4WhatCannotBe() {
        says("Promise 4: Of a CUSTOMER 0 .. 4 as for put(), 5 how many he WANTS. NONE");
        ThirteenthLoaf x = eight(1);
        due("what 5 of the last", x.of(7, 5), 1);
        due("what 6", x.of(7, 6), NONE);
        due("what -1", x.of(7, -1), NONE);
        due("customer 8", x.of(8, 0), NONE);
        due("customer -1", x.of(-1, 0), NONE);
        for (int far : FAR) {
            due("what " + far, x.of(0, far), NONE);
            due("customer " + far, x.of(far, 0), NONE);
        }
    }

    private static void promise5Nothing() {
        says("Promise 5: What a CUSTOMER is OWED. NOTHING");
        ThirteenthLoaf x = with(1);
        x.put(0, 3, 1);
        due("below 0", x.owed(0), -13);
        due("nobody", x.owed(1), NOTHING);
        due("-1", x.owed(-1), NOTHING);
        for (int far : FAR) {
            due("customer " + far, x.owed(far), NOTHING);
        }
        due("no refusal", x.count(6), 0);
    }

    private static void promise6WhatCannotBe() {
        says("Promise 6: A TERM: what it was. -1");
        ThirteenthLoaf x = new ThirteenthLoaf();
        due("what -1", x.terms(-1, 5), -1);
        due("what 5", x.terms(5, 5), -1);
        for (int far : FAR) {
            due("what " + far, x.terms(far, 5), -1);
        }
        due("by -1", x.count(5), 2 + FAR.length);
        due("the same again", x.terms(0, 13), 13);
    }

    private static void promise7TwentyBytes() {
        says("Promise 7: Twenty bytes come behind the TAPE, four of each number, the highest first");
        ThirteenthLoaf x = new ThirteenthLoaf();
        due("the first twenty", x.feed(0x01020103, 0x04000505, 0x01060700, 0x07080109, 0x09000a0a), 20);
        due("behind them", x.feed(0x010b0b01, 0xff000000, 0x80000000, 0, 0), 40);
        x.end(33);
        due("seven of eleven", x.row(), 7);
        int[] bases = {1, 3, 5, 6, 7, 9, 0};
        int[] ranks = {2, 4, 5, 7, 8, 9, 0};
        int[] ovens = {1, 0, 1, 0, 1, 0, 0};
        for (int i = 0; i < 7; i++) {
            due("base of " + i, x.of(i, 0), bases[i]);
            due("rank of " + i, x.of(i, 1), ranks[i]);
            due("oven of " + i, x.of(i, 2), ovens[i]);
        }
        due("the others", x.crumbs(), 4);
    }

    private static void promise7MoreThan400() {
        says("Promise 7: how many it has. NONE, if there would be more than 400");
        ThirteenthLoaf x = new ThirteenthLoaf();
        for (int i = 1; i <= 20; i++) {
            due("feed", x.feed(0, 0, 0, 0, 0), 20 * i);
        }
        due("the 21st", x.feed(0, 0, 0, 0, 0), NONE);
        due("400 stay", x.count(4), 400);
        x.end(381);
        due("to 401", x.feed(0, 0, 0, 0, 0), NONE);
        due("381 stay", x.count(4), 381);
        x.end(380);
        due("to 400", x.feed(0, 0, 0, 0, 0), 400);
        due("no refusals", x.count(5) + x.count(8) - x.status(), 0);
    }

    private static void promise8FirstBytesAlone() {
        says("Promise 8: The TAPE has its first n bytes alone: n");
        ThirteenthLoaf x = new ThirteenthLoaf();
        due("0 of 0", x.end(0), 0);
        x.feed(0x05060107, 0x08010000, 0, 0, 0);
        due("20 of 20", x.end(20), 20);
        due("6", x.end(6), 6);
        due("it has so many", x.count(4), 6);
        due("3", x.end(3), 3);
        x.feed(0x09090009, 0x09000000, 0, 0, 0);
        due("the next come behind", x.end(6), 6);
        due("two", x.row(), 2);
        due("the first", digits(x.of(0, 0), x.of(0, 1), x.of(0, 2)), 561);
        due("the next, not the one that was cut", digits(x.of(1, 0), x.of(1, 1), x.of(1, 2)), 990);
    }

    private static void promise8CutWithinAToken() {
        says("Promise 8: The TAPE has its first n bytes alone: what stood behind is no part of a TOKEN");
        ThirteenthLoaf x = with(20);
        tape(x, "waitsss");
        x.end(5);
        due("letters", x.law(), 0);
        tape(x, "wants 123");
        x.end(8);
        due("digits", x.law(), 1);
        x.force(1);
        due("the first two of them", x.of(0, 5), 12);
        tape(x, "wants day");
        x.end(8);
        due("a word that is cut", x.law(), -6);
        due("its place", x.fault(), 6);
        tape(x, "wants 1;waits");
        x.end(8);
        due("what follows", x.law(), -6);
        due("at the end", x.fault(), 8);
        tape(x, "wants 1 x");
        x.end(8);
        due("a blank at the end", x.law(), 2);
    }

    private static void promise8NotSoMany() {
        says("Promise 8: NONE, if it has not so many, or n is below 0");
        ThirteenthLoaf x = new ThirteenthLoaf();
        due("1 of 0", x.end(1), NONE);
        due("-1 of 0", x.end(-1), NONE);
        x.feed(0, 0, 0, 0, 0);
        due("21 of 20", x.end(21), NONE);
        due("-1 of 20", x.end(-1), NONE);
        for (int far : FAR) {
            due("far " + far, x.end(far), NONE);
        }
        due("20 stay", x.count(4), 20);
        x.end(6);
        due("7 of 6, though 20 were there", x.end(7), NONE);
        due("6 stay", x.count(4), 6);
    }

    private static void promise9TheTapeIsEmptyThen() {
        says("Promise 9: A ROW, the TAPE is empty then: how many came");
        ThirteenthLoaf x = new ThirteenthLoaf();
        bytes(x, 1, 1, 1);
        due("one", x.row(), 1);
        due("empty", x.count(4), 0);
        bytes(x, 99);
        due("none", x.row(), 0);
        due("empty, too", x.count(4), 0);
        due("not refused", x.status(), 0);
    }

    private static void promise9TheTapeIsEmpty() {
        says("Promise 9: -6 the TAPE is empty");
        ThirteenthLoaf x = new ThirteenthLoaf();
        due("at first", x.row(), -6);
        x.feed(1, 1, 1, 1, 1);
        x.end(0);
        due("cut to nothing", x.row(), -6);
        ThirteenthLoaf full = eight(1);
        due("without room, too", full.row(), -6);
        due("by -6", full.count(9), 1);
    }

    private static void promise10TheLatestNotRefused() {
        says("Promise 10: in the latest row() that was not REFUSED (0 ahead of any)");
        ThirteenthLoaf x = new ThirteenthLoaf();
        due("ahead of any", x.crumbs(), 0);
        x.row();
        due("ahead of any that was not refused", x.crumbs(), 0);
        bytes(x, 41, 0, 0, 42, 0, 0);
        x.row();
        due("two", x.crumbs(), 2);
        x.row();
        due("two still", x.crumbs(), 2);
        bytes(x, 1, 1, 1);
        x.row();
        due("none in the latest", x.crumbs(), 0);
    }

    private static void promise11TheTapeIsEmptyThen() {
        says("Promise 11: The TAPE, which is empty then, becomes a LAW: its number");
        ThirteenthLoaf x = with(1);
        due("the first", law(x, "wants 5"), 0);
        due("empty", x.count(4), 0);
        due("not a law", law(x, "wants"), -6);
        due("empty by -6", x.count(4), 0);
        due("no number is lost", law(x, "wants 6"), 1);
        x.force(1);
        due("it is that law", x.of(0, 5), 6);
    }

    private static void promise11NoRoomAheadOfReading() {
        says("Promise 11: -5 (ahead of reading it; the TAPE is empty then, too)");
        ThirteenthLoaf x = new ThirteenthLoaf();
        law(x, "wants ?");
        for (int i = 0; i < 6; i++) {
            due("law " + i, law(x, "waits"), i);
        }
        due("the 7th", law(x, "waits; ?"), -5);
        due("empty", x.count(4), 0);
        due("not read", x.fault(), NONE);
        due("the 7th that would be one", law(x, "waits"), -5);
        due("refused by", x.status(), -5);
        due("how often", x.count(8), 2);
    }

    private static void promise11BlanksAlone() {
        says("Promise 11: -6 (blanks alone: FAULT at the end)");
        for (int blanks : new int[] {0, 1, 19, 20, 400}) {
            ThirteenthLoaf x = new ThirteenthLoaf();
            due(blanks + " blanks", law(x, " ".repeat(blanks)), -6);
            due(blanks + " blanks, fault", x.fault(), blanks);
            due(blanks + " blanks, empty", x.count(4), 0);
        }
    }

    private static void promise12TheLatestThatRead() {
        says("Promise 12: FAULT of the latest law() that read a TEXT: its place; NONE without");
        ThirteenthLoaf x = new ThirteenthLoaf();
        due("ahead of any", x.fault(), NONE);
        law(x, "waits; x");
        due("at 7", x.fault(), 7);
        x.row();
        x.image(0);
        due("it stays", x.fault(), 7);
        for (int i = 0; i < 6; i++) {
            law(x, "waits");
            due("without", x.fault(), NONE);
        }
        x.image(1);
        due("no room", law(x, "waits; x"), -5);
        due("not read, without still", x.fault(), NONE);
        x.back(0);
        law(x, "x");
        due("at 0", x.fault(), 0);
        x.back(1);
        due("no room for one without", law(x, "waits"), -5);
        due("not read, at 0 still", x.fault(), 0);
    }

    private static void promise13WhichWas() {
        says("Promise 13: A LAW is in FORCE (NONE: none): which was");
        ThirteenthLoaf x = with(20);
        due("none, none was", x.force(NONE), NONE);
        due("not refused", x.status(), 0);
        for (int i = 0; i < 6; i++) {
            law(x, "wants " + i);
        }
        due("the last", x.force(5), NONE);
        due("the last is", x.of(0, 5), 5);
        due("the first", x.force(0), 5);
        due("the first is", x.of(0, 5), 0);
        due("the same", x.force(0), 0);
        due("none", x.force(NONE), 0);
        due("none is", x.count(10), NONE);
        due("BASE then", x.of(0, 5), 20);
    }

    private static void promise13NoSuch() {
        says("Promise 13: -2");
        ThirteenthLoaf x = with(20);
        due("the first of none", x.force(0), -2);
        for (int i = 0; i < 6; i++) {
            law(x, "wants " + i);
        }
        x.force(3);
        due("the 7th", x.force(6), -2);
        for (int far : FAR) {
            due("far " + far, x.force(far), -2);
        }
        due("it stays", x.count(10), 3);
    }

    private static void promise14None() {
        says("Promise 14: 1, 0. NONE (for himself, too)");
        ThirteenthLoaf x = eight(1);
        rule(x, "waits");
        for (int i = 0; i < 8; i++) {
            due("for himself", x.waits(i, i), NONE);
            due("for another", x.waits(i, 7 - i), 1);
        }
        due("8 for 0", x.waits(8, 0), NONE);
        due("0 for 8", x.waits(0, 8), NONE);
        due("-1 for 0", x.waits(-1, 0), NONE);
        due("0 for -1", x.waits(0, -1), NONE);
        due("8 for 8", x.waits(8, 8), NONE);
        for (int far : FAR) {
            due("far " + far, x.waits(far, 0), NONE);
            due("for far " + far, x.waits(0, far), NONE);
        }
        x.force(NONE);
        due("without a law", x.waits(0, 7), 0);
    }

    private static void promise15FromOneToAMillion() {
        says("Promise 15: loaf n (1 .. 1,000,000) .. 1, 0; how many of loaves 1 .. n are (what 1). NONE");
        ThirteenthLoaf x = new ThirteenthLoaf();
        x.terms(0, 2);
        for (int what = 0; what < 2; what++) {
            due("0, " + what, x.blessed(0, what), NONE);
            due("-1, " + what, x.blessed(-1, what), NONE);
            due("1, " + what, x.blessed(1, what), 0);
            due("2, " + what, x.blessed(2, what), 1);
            due("1,000,000, " + what, x.blessed(1000000, what), what == 0 ? 1 : 500000);
            due("1,000,001, " + what, x.blessed(1000001, what), NONE);
            due("1,000,002, " + what, x.blessed(1000002, what), NONE);
            for (int far : FAR) {
                due("far " + far, x.blessed(far, what), NONE);
            }
        }
        due("what -1", x.blessed(2, -1), NONE);
        due("what 2", x.blessed(2, 2), NONE);
        for (int far : FAR) {
            due("what " + far, x.blessed(2, far), NONE);
        }
    }

    private static void promise16FirstOfHisLoaves() {
        says("Promise 16: (what 0), the first of his loaves (1; NONE: he WANTS none). NONE");
        ThirteenthLoaf x = with(0, 1, 40, 0);
        due("wants none", x.served(0, 1), NONE);
        due("gets none", x.served(0, 0), 0);
        due("wants one", x.served(1, 1), 1);
        due("wants 40", x.served(2, 1), 2);
        due("gets of 40", x.served(2, 0), 3);
        due("the last wants none", x.served(3, 1), NONE);
        due("what 2", x.served(1, 2), NONE);
        due("what -1", x.served(1, -1), NONE);
        due("customer 4", x.served(4, 0), NONE);
        due("customer -1", x.served(-1, 0), NONE);
        for (int far : FAR) {
            due("far " + far, x.served(far, 0), NONE);
            due("what " + far, x.served(1, far), NONE);
        }
        x.terms(0, 2);
        due("20 at most", x.served(2, 0), 20);
        rule(x, "wants 0");
        due("wants none by law", x.served(2, 1), NONE);
    }

    private static void promise17OnADay() {
        says("Promise 17: How many ORDERS a DAY has");
        ThirteenthLoaf x = with(1, 1, 1);
        rule(x, "waits if day=999*10+9");
        x.terms(2, 9998);
        due("that DAY", x.orders(), 6);
        x.bake(0);
        due("the next", x.orders(), 0);
    }

    private static void promise18NoOrder() {
        says("Promise 18: NONE (there is no ORDER, but for 1; ..)");
        ThirteenthLoaf x = with(13, 13);
        rule(x, "waits");
        due("how many get one", x.best(0), NONE);
        due("in how many", x.best(1), 0);
        for (int i = 0; i < 3; i++) {
            due("who is " + i, x.best(2 + i), NONE);
        }
    }

    private static void promise18NotSoMany() {
        says("Promise 18: NONE (.. there are not so many)");
        ThirteenthLoaf x = eight(1);
        due("the 8th", x.best(9), 7);
        due("the 9th", x.best(10), NONE);
        due("-1", x.best(-1), NONE);
        for (int far : FAR) {
            due("far " + far, x.best(far), NONE);
        }
        ThirteenthLoaf y = with(1);
        due("the first of one", y.best(2), 0);
        due("the second of one", y.best(3), NONE);
        due("the first of none", new ThirteenthLoaf().best(2), NONE);
    }

    private static void promise19NoOrder() {
        says("Promise 19: NONE (as for best; no CUSTOMERS: 0)");
        ThirteenthLoaf x = new ThirteenthLoaf();
        rule(x, "waits");
        due("no customers", x.fairest(0), 0);
        x.customer(13, 0, 0);
        due("one", x.fairest(0), 0);
        due("he is the first", x.fairest(1), 0);
        x.customer(13, 0, 0);
        due("no order", x.fairest(0), NONE);
        due("no first", x.fairest(1), NONE);
    }

    private static void promise19NotSoMany() {
        says("Promise 19: the CUSTOMER that is i-th (1 + i). NONE");
        ThirteenthLoaf x = eight(1);
        due("the 8th", x.fairest(8), 7);
        due("the 9th", x.fairest(9), NONE);
        due("-1", x.fairest(-1), NONE);
        for (int far : FAR) {
            due("far " + far, x.fairest(far), NONE);
        }
        due("the first of none", new ThirteenthLoaf().fairest(1), NONE);
    }

    private static void promise20HowMany() {
        says("Promise 20: how many DAYS (i NONE); who had one behind its i-th DAY");
        ThirteenthLoaf x = with(5, 8);
        due("how many", x.year(NONE), 2);
        due("behind the first", x.year(0), 1);
        due("behind the second", x.year(1), 3);
        due("no third", x.year(2), NONE);
        for (int far : FAR) {
            due("far " + far, x.year(far), NONE);
        }
        x.put(1, 0, 6);
        due("by what stands now", x.year(NONE), 3);
        due("none on the first of 11 loaves a day", x.year(0), 0);
    }

    private static void promise20FewerThanBefore() {
        says("Promise 20: who had one behind its i-th DAY by its WAY, as bits");
        ThirteenthLoaf x = with(1, 1, 1, 1, 1, 1, 1);
        x.terms(0, 7);
        due("one a day", x.year(NONE), 7);
        due("all behind the seventh", x.year(6), 127);
        for (int customer = 0; customer < 7; customer++) {
            x.put(customer, 0, 2);
        }
        due("two a day", x.year(NONE), 4);
        due("behind the first of four", x.year(0), 3);
        due("one new behind the second", x.year(1), 7);
        due("two new behind the third", x.year(2), 31);
        due("all behind the fourth", x.year(3), 127);
        due("no fifth any more", x.year(4), NONE);
    }

    private static void promise20NotIn30() {
        says("Promise 20: NONE (not in 30; no CUSTOMERS)");
        ThirteenthLoaf x = with(13, 0);
        due("not in 30", x.year(NONE), NONE);
        due("its first", x.year(0), NONE);
        due("its 30th", x.year(29), NONE);
        ThirteenthLoaf y = new ThirteenthLoaf();
        due("no customers", y.year(NONE), NONE);
        due("no customers, the first", y.year(0), NONE);
    }

    private static void promise21SoMany() {
        says("Promise 21: CHANCES of a CUSTOMER for so many (0 .. 20). NONE");
        ThirteenthLoaf x = with(40);
        x.terms(0, 2);
        due("20", x.chances(0, 20), 1);
        due("0", x.chances(0, 0), 0);
        due("21", x.chances(0, 21), NONE);
        due("-1", x.chances(0, -1), NONE);
        due("customer 1", x.chances(1, 0), NONE);
        due("customer -1", x.chances(-1, 0), NONE);
        for (int far : FAR) {
            due("far " + far, x.chances(far, 0), NONE);
            due("many " + far, x.chances(0, far), NONE);
        }
    }

    private static void promise22FromOneToFour() {
        says("Promise 22: so many DAYS 1 .. 4 .. NONE");
        ThirteenthLoaf x = eight(1);
        x.put(0, 0, 0);
        long all = 1;
        for (int days = 1; days <= 4; days++) {
            all *= 40320;
            due(days + " days", x.never(0, days), all);
        }
        due("0 days", x.never(0, 0), NONE);
        due("5 days", x.never(0, 5), NONE);
        due("-1 days", x.never(0, -1), NONE);
        due("customer 8", x.never(8, 1), NONE);
        due("customer -1", x.never(-1, 1), NONE);
        for (int far : FAR) {
            due("far " + far, x.never(far, 1), NONE);
            due("days " + far, x.never(0, far), NONE);
        }
    }

    private static void promise22NoneAtAll() {
        says("Promise 22: a CUSTOMER gets no BLESSED loaf at all");
        ThirteenthLoaf x = with(13, 0);
        due("he always gets one", x.never(0, 1), 0);
        due("nor in four days", x.never(0, 4), 0);
        due("the other one never", x.never(1, 4), 16);
        rule(x, "waits");
        due("no rows of orders", x.never(1, 1), 0);
        rule(x, "waits if day=1");
        due("up to a day without orders", x.never(1, 1), 2);
        due("with a day without orders", x.never(1, 2), 0);
    }

    private static void promise22OnFromDay() {
        says("Promise 22: (from DAY on, each any ORDER)");
        ThirteenthLoaf x = with(6, 6);
        due("12 loaves", x.never(0, 1), 2);
        // On the second DAY the 13th is his who comes first.
        due("24 loaves", x.never(0, 2), 2);
        x.terms(2, 9999);
        x.terms(3, 999999);
        due("beyond the most", x.never(0, 4), 2);
        rule(x, "wants 0; wants 13 if day/10=1000");
        due("the last DAY", x.never(0, 1), 2);
        due("the one behind it", x.never(0, 2), 0);
        due("nothing stays of it", x.count(13) + x.count(14), 9999 + 999999);
        ThirteenthLoaf y = with(7, 6);
        rule(y, "wants 0 if had>0");
        due("HAD in the law as it is now", y.never(1, 2), 1);
    }

    private static void promise23HowMany() {
        says("Promise 23: A SIGHT: how many there are. -1; -2; -5");
        ThirteenthLoaf x = with(1);
        due("0", x.sight(0, 0), 1);
        due("20", x.sight(0, 20), 2);
        due("21", x.sight(0, 21), -1);
        due("-1", x.sight(0, -1), -1);
        due("customer 1", x.sight(1, 0), -2);
        x.claim(0, 0);
        due("claims are no sights", x.sight(0, 0), 3);
        for (int i = 4; i <= 8; i++) {
            due("sight", x.sight(0, 0), i);
        }
        due("the 9th", x.sight(0, 0), -5);
        x.forget();
        due("room again", x.sight(0, 0), 1);
    }

    private static void promise24HowManyAndTheIth() {
        says("Promise 24: COUNTS of an OVEN: how many (i NONE), the i-th. NONE");
        ThirteenthLoaf x = new ThirteenthLoaf();
        for (int oven = 0; oven < 2; oven++) {
            due("how many", x.counts(oven, NONE), 13);
            due("the first", x.counts(oven, 0), 0);
            due("the last", x.counts(oven, 12), 12);
            due("one more", x.counts(oven, 13), NONE);
            due("-2", x.counts(oven, -2), NONE);
        }
        for (int oven : new int[] {-1, 2, LOWEST, HIGHEST}) {
            due("how many of oven " + oven, x.counts(oven, NONE), NONE);
            due("the first of oven " + oven, x.counts(oven, 0), NONE);
        }
        for (int far : FAR) {
            due("far " + far, x.counts(0, far), NONE);
        }
    }

    private static void promise25HowMany() {
        says("Promise 25: A CLAIM: how many there are. -1; -2; -5");
        ThirteenthLoaf x = with(1);
        due("0", x.claim(0, 0), 1);
        due("20", x.claim(0, 20), 2);
        due("21", x.claim(0, 21), -1);
        due("-1", x.claim(0, -1), -1);
        due("customer 1", x.claim(1, 0), -2);
        x.sight(0, 0);
        due("sights are no claims", x.claim(0, 0), 3);
        for (int i = 4; i <= 8; i++) {
            due("claim", x.claim(0, 0), i);
        }
        due("the 9th", x.claim(0, 0), -5);
        due("it did not come", x.wrong(0), 1);
        x.forget();
        due("room again", x.claim(0, 0), 1);
    }

    private static void promise26NoOrder() {
        says("Promise 26: in how many ORDERS just so few (1; 0) .. NONE (as for best)");
        ThirteenthLoaf x = with(13, 13);
        x.claim(0, 0);
        rule(x, "waits");
        due("how many", x.wrong(0), NONE);
        due("in how many", x.wrong(1), 0);
        due("who is first", x.wrong(2), NONE);
        x.force(NONE);
        due("with orders", x.wrong(0), 1);
        due("in both", x.wrong(1), 2);
    }

    private static void promise26NotSoMany() {
        says("Promise 26: the CUSTOMER that is i-th of the first such (2 + i). NONE (as for best)");
        ThirteenthLoaf x = eight(1);
        due("the 8th", x.wrong(9), 7);
        due("the 9th", x.wrong(10), NONE);
        due("-1", x.wrong(-1), NONE);
        for (int far : FAR) {
            due("far " + far, x.wrong(far), NONE);
        }
        due("the first of none", new ThirteenthLoaf().wrong(2), NONE);
    }

    private static void promise27HowManyThereWere() {
        says("Promise 27: SIGHTS and CLAIMS are none then: how many there were");
        ThirteenthLoaf x = with(1);
        due("none", x.forget(), 0);
        for (int i = 0; i < 8; i++) {
            x.sight(0, 1);
            x.claim(0, 1);
        }
        due("wrong", x.wrong(0), 8);
        due("counts", x.counts(0, NONE), 1);
        due("all", x.forget(), 16);
        due("no sights", x.count(2), 0);
        due("no claims", x.count(3), 0);
        due("wrong then", x.wrong(0), 0);
        due("counts then", x.counts(0, NONE), 13);
        due("none again", x.forget(), 0);
    }

    private static void promise28ADayGoesBy() {
        says("Promise 28: A DAY goes by (HAD, BOUGHT, BAKED, DAY go on): .. how many BLESSED loaves");
        for (int how = 0; how <= 2; how++) {
            ThirteenthLoaf x = with(5, 8);
            x.customer(40, 0, 1);
            due("blessed, " + how, x.bake(how), 4);
            due("bought, " + how, x.of(0, 4) * 10000 + x.of(1, 4) * 100 + x.of(2, 4), 50840);
            due("had, " + how, digits(x.of(0, 3), x.of(1, 3), x.of(2, 3)), 13);
            due("day, " + how, x.count(13), 1);
            due("baked, " + how, x.count(14) * 100 + x.count(15), 1340);
        }
        ThirteenthLoaf y = new ThirteenthLoaf();
        for (int far : FAR) {
            due("how " + far, y.bake(far), -1);
        }
        due("how -1", y.bake(-1), -1);
        due("how 3", y.bake(3), -1);
        due("no day went by", y.count(13), 0);
    }

    private static void promise28AsToldByNumber() {
        says("Promise 28: as TOLD (how 0)");
        ThirteenthLoaf x = with(1, 2, 3, 4, 5, 6, 7, 8);
        // The 13th of 36 is among 11 to 15, the 26th among 22 to 28.
        due("blessed", x.bake(0), 2);
        due("had", digits(x.of(0, 3), x.of(1, 3), x.of(2, 3), x.of(3, 3), x.of(4, 3), x.of(5, 3),
                x.of(6, 3), x.of(7, 3)), 1010);
        due("bought", digits(x.of(0, 4), x.of(1, 4), x.of(2, 4), x.of(3, 4), x.of(4, 4), x.of(5, 4),
                x.of(6, 4), x.of(7, 4)), 12345678);
        due("baked", x.count(14), 36);
    }

    private static void promise28NoSuchOrder() {
        says("Promise 28: -3 there is no such ORDER");
        ThirteenthLoaf x = with(5, 8);
        rule(x, "waits");
        due("by BEST", x.bake(1), -3);
        due("by FAIREST", x.bake(2), -3);
        due("no day went by", x.count(13) + x.count(14), 0);
        due("as TOLD", x.bake(0), 1);
        due("by -3", x.count(7), 2);
        ThirteenthLoaf y = with(5);
        rule(y, "waits");
        due("one waits for nobody", y.bake(1), 0);
    }

    /** One who gets three BLESSED loaves of 40, just up to the most and one above it. */
    private static void promise28AboveItsMost() {
        says("Promise 28: -5 a number would be above its most (nothing is done then)");
        for (int how = 0; how <= 2; how++) {
            for (int number = 0; number < 6; number++) {
                due("up to it, " + number, atTheMost(number, 0).bake(how), 3);
                ThirteenthLoaf above = atTheMost(number, 1);
                int all = above.of(0, 3) + above.of(0, 4) + above.count(13) + above.count(14)
                        + above.count(15);
                due("above it, " + number, above.bake(how), number == 5 ? 3 : -5);
                due("status, " + number, above.status(), number == 5 ? 0 : -5);
                due("nothing is done, " + number, above.of(0, 3) + above.of(0, 4) + above.count(13)
                        + above.count(14) + above.count(15), number == 5 ? all + 84 : all);
            }
        }
    }

    private static ThirteenthLoaf atTheMost(int number, int more) {
        ThirteenthLoaf x = new ThirteenthLoaf();
        x.customer(40, 0, number == 3 ? 1 : 0);
        switch (number) {
            case 0: x.put(0, 3, 9996 + more); break;
            case 1: x.put(0, 4, 999959 + more); break;
            // 14 goes into 999,964, 999,978 and 999,992: three there, too.
            case 2: x.terms(3, 999959 + more); break;
            case 3: x.terms(4, 999959 + more); break;
            case 4: x.terms(2, 9998 + more); break;
            default: x.terms(4, 999999); break;
        }
        if (number == 2 || number == 3) {
            x.terms(0, 14);
        }
        return x;
    }

    private static void promise28AboveItsMostByAnOrder() {
        says("Promise 28: -5 a number would be above its most: by the ORDER that it goes by");
        ThirteenthLoaf x = with(5, 8);
        x.put(1, 3, 9999);
        due("as TOLD the second gets it", x.bake(0), -5);
        due("by BEST, the first ORDER, too", x.bake(1), -5);
        x.put(1, 4, 999991);
        // 999,999 less 13 times 9,999: he is OWED so much that it should be his.
        due("by FAIREST, too", x.bake(2), -5);
        rule(x, "waits if who=0");
        due("by BEST the first one gets it", x.bake(1), 1);
        due("he had it", digits(x.of(0, 3), x.of(1, 3) - 9999), 10);
        due("bought up to the most", x.of(1, 4), 999999);
    }

    private static void promise29FromOneToTwenty() {
        says("Promise 29: QUEUES, 1 .. 20 days .. -1");
        ThirteenthLoaf x = with(13);
        due("1 day", x.queues(0, 1), 1);
        due("20 days", x.queues(0, 20), 20);
        due("0 days", x.queues(0, 0), -1);
        due("21 days", x.queues(0, 21), -1);
        due("-1 days", x.queues(0, -1), -1);
        for (int far : FAR) {
            due("days " + far, x.queues(0, far), -1);
            due("seed " + far, x.queues(far, 1), -1);
        }
        due("by -1", x.count(5), 3 + 2 * FAR.length);
    }

    private static void promise29TheLatestStay() {
        says("Promise 29: -5 a number would be above its most (the latest ones stay)");
        ThirteenthLoaf x = with(13, 13);
        x.queues(1, 3);
        int before = digits(x.drawn(0, 0), x.drawn(1, 0), x.drawn(0, 1), x.drawn(1, 1));
        x.customer(1, 1, 1);
        x.terms(2, 9999);
        due("above the most", x.queues(0, 1), -5);
        due("the latest", digits(x.drawn(0, 0), x.drawn(1, 0), x.drawn(0, 1), x.drawn(1, 1)), before);
        due("who came behind is not in them", x.drawn(2, 0), NONE);
        due("refused by -1", x.queues(0, 0), -1);
        due("the latest still", digits(x.drawn(0, 0), x.drawn(1, 0), x.drawn(0, 1), x.drawn(1, 1)), before);
        ThirteenthLoaf y = with(13);
        y.terms(2, 9990);
        due("ahead of any, above the most", y.queues(0, 10), -5);
        due("there are none", y.drawn(0, 0), NONE);
        due("up to the most", y.queues(0, 9), 9);
        due("the latest of nine days", y.drawn(0, 0), 9);
        due("on the tenth day above it", y.queues(0, 10), -5);
        due("nine days stay", y.drawn(0, 0), 9);
    }

    private static void promise30BehindTheLatest() {
        says("Promise 30: Behind the latest QUEUES: how many BLESSED loaves .., where he stood on the last day");
        ThirteenthLoaf x = with(5, 8);
        x.queues(0, 1);
        due("got", digits(x.drawn(0, 0), x.drawn(1, 0)), 10);
        due("stood", digits(x.drawn(0, 1), x.drawn(1, 1)), 10);
        x.queues(1, 1);
        due("got in the latest", digits(x.drawn(0, 0), x.drawn(1, 0)), 1);
        due("stood in the latest", digits(x.drawn(0, 1), x.drawn(1, 1)), 1);
        // From 8: 21169 (odd), 361683 of one, 947500 (even): one each, 0 first on the last day.
        x.queues(8, 2);
        due("got in both days", digits(x.drawn(0, 0), x.drawn(1, 0)), 11);
        due("stood on the last", digits(x.drawn(0, 1), x.drawn(1, 1)), 1);
        x.put(0, 0, 40);
        x.bake(0);
        due("they stay", digits(x.drawn(0, 0), x.drawn(1, 0)), 11);
    }

    private static void promise30None() {
        says("Promise 30: NONE");
        ThirteenthLoaf x = eight(1);
        due("ahead of any", x.drawn(0, 0), NONE);
        due("ahead of any, where", x.drawn(0, 1), NONE);
        x.queues(0, 1);
        due("the last", x.drawn(7, 1), 6);
        due("customer 8", x.drawn(8, 1), NONE);
        due("customer -1", x.drawn(-1, 1), NONE);
        due("what 2", x.drawn(0, 2), NONE);
        due("what -1", x.drawn(0, -1), NONE);
        for (int far : FAR) {
            due("far " + far, x.drawn(far, 0), NONE);
            due("what " + far, x.drawn(0, far), NONE);
        }
    }

    private static void promise31Kept() {
        says("Promise 31: IMAGE k is kept: 0; -1");
        ThirteenthLoaf x = with(1);
        due("0", x.image(0), 0);
        due("1", x.image(1), 0);
        due("2", x.image(2), -1);
        due("-1", x.image(-1), -1);
        for (int far : FAR) {
            due("far " + far, x.image(far), -1);
        }
        due("by -1", x.count(5), 2 + FAR.length);
    }

    private static void promise32NotKept() {
        says("Promise 32: BACK to IMAGE k: 0. -1; -2 it was not kept");
        ThirteenthLoaf x = with(1);
        due("0 was not kept", x.back(0), -2);
        due("1 was not kept", x.back(1), -2);
        x.image(1);
        due("0 was not kept still", x.back(0), -2);
        due("1", x.back(1), 0);
        due("2", x.back(2), -1);
        due("-1", x.back(-1), -1);
        for (int far : FAR) {
            due("far " + far, x.back(far), -1);
        }
        ThirteenthLoaf y = new ThirteenthLoaf();
        y.image(0);
        y.customer(1, 1, 1);
        due("back to nobody", y.back(0), 0);
        due("nobody", y.count(0), 0);
    }

    private static void promise33NothingAndAll() {
        says("Promise 33: 0 CUSTOMERS, 1 LAWS, 2 SIGHTS, 3 CLAIMS, 4 bytes of the TAPE, .. 10 the LAW in FORCE,"
                + " 11 .. 15 TERMS 0 .. 4");
        ThirteenthLoaf x = new ThirteenthLoaf();
        int[] nothing = {0, 0, 0, 0, 0, 0, 0, 0, 0, 0, NONE, 13, 0, 0, 0, 0};
        for (int what = 0; what < nothing.length; what++) {
            due("nothing, " + what, x.count(what), nothing[what]);
        }
        int[] most = {20, 9, 9999, 999999, 999998};
        for (int i = 0; i < 8; i++) {
            x.customer(i, i, 0);
            x.sight(0, i);
            x.claim(0, i);
        }
        for (int i = 0; i < 6; i++) {
            rule(x, "waits");
        }
        for (int i = 0; i < 5; i++) {
            x.terms(i, most[i]);
        }
        tape(x, " ".repeat(400));
        int[] all = {8, 6, 8, 8, 400, 0, 0, 0, 0, 0, 5, 20, 9, 9999, 999999, 999998};
        for (int what = 0; what < all.length; what++) {
            due("all, " + what, x.count(what), all[what]);
        }
    }

    private static void promise33Others() {
        says("Promise 33: NONE for others");
        ThirteenthLoaf x = new ThirteenthLoaf();
        due("15, the last TERM", x.count(15), 0);
        due("16", x.count(16), NONE);
        due("-1", x.count(-1), NONE);
        for (int far : FAR) {
            due("far " + far, x.count(far), NONE);
        }
        due("no refusals", x.count(5), 0);
    }

    private static void promise33Refused() {
        says("Promise 33: 5 .. 9 how many calls were REFUSED by -1, -2, -3, -5, -6 (IMAGES do not keep that)");
        ThirteenthLoaf x = with(1, 1);
        x.image(0);
        x.customer(41, 0, 0);
        due("one by -1", refusals(x), 10000);
        x.force(9);
        x.force(9);
        due("two by -2", refusals(x), 12000);
        rule(x, "waits");
        x.bake(1);
        x.bake(2);
        x.bake(1);
        due("three by -3", refusals(x), 12300);
        x.terms(2, 9999);
        for (int i = 0; i < 4; i++) {
            x.bake(0);
        }
        due("four by -5", refusals(x), 12340);
        for (int i = 0; i < 5; i++) {
            x.row();
        }
        due("five by -6", refusals(x), 12345);
        x.of(9, 9);
        x.waits(0, 0);
        x.feed(0, 0, 0, 0, 0);
        x.end(-1);
        x.count(99);
        due("NONE is no refusal", refusals(x), 12345);
        x.back(0);
        due("BACK does not change them", refusals(x), 12345);
    }

    private static int refusals(ThirteenthLoaf x) {
        return digits(x.count(5), x.count(6), x.count(7), x.count(8), x.count(9));
    }

    private static void promise34TheLatestCall() {
        says("Promise 34: What the latest call .. was REFUSED by; 0 if it was not");
        ThirteenthLoaf x = with(13, 13);
        x.image(0);
        due("customer refused", x.customer(41, 0, 0) - x.status(), 0);
        due("customer", x.customer(40, 0, 0) * 0 + x.status(), 0);
        due("put refused", x.put(9, 0, 0) - x.status(), 0);
        due("put", x.put(0, 0, 13) * 0 + x.status(), 0);
        due("terms refused", x.terms(0, 1) - x.status(), 0);
        due("terms", x.terms(0, 13) * 0 + x.status(), 0);
        due("row refused", x.row() - x.status(), 0);
        bytes(x, 99);
        due("row", x.row() * 0 + x.status(), 0);
        due("law refused", x.law() - x.status(), 0);
        due("law", law(x, "waits") * 0 + x.status(), 0);
        due("force refused", x.force(1) - x.status(), 0);
        due("force, which answers -1", x.force(0) * 0 + x.status(), 0);
        due("sight refused", x.sight(9, 0) - x.status(), 0);
        due("sight", x.sight(0, 0) * 0 + x.status(), 0);
        due("claim refused", x.claim(0, 21) - x.status(), 0);
        due("claim", x.claim(0, 0) * 0 + x.status(), 0);
        due("bake refused", x.bake(1) - x.status(), 0);
        due("bake", x.bake(0) * 0 + x.status(), 0);
        due("queues refused", x.queues(0, 21) - x.status(), 0);
        due("queues", x.queues(0, 1) * 0 + x.status(), 0);
        due("image refused", x.image(2) - x.status(), 0);
        due("image", x.image(0) * 0 + x.status(), 0);
        due("back refused", x.back(1) - x.status(), 0);
        due("back", x.back(0) * 0 + x.status(), 0);
        due("each of twelve once", x.count(5) + x.count(6) + x.count(7) + x.count(8) + x.count(9), 12);
    }

    private static void promise34NotRefused() {
        says("Promise 34: 0 if it was not, whatever the answer was");
        ThirteenthLoaf x = with(5, 5);
        due("customer answers 2", x.customer(13, 0, 0), 2);
        due("status", x.status(), 0);
        due("put answers 5", x.put(0, 0, 6), 5);
        due("status behind put", x.status(), 0);
        due("terms answers 13", x.terms(0, 12), 13);
        due("status behind terms", x.status(), 0);
        bytes(x, 1, 1, 1, 2, 2, 0);
        due("row answers 2", x.row(), 2);
        due("status behind row", x.status(), 0);
        law(x, "wants 12");
        due("law answers 1", law(x, "wants 1"), 1);
        due("status behind law", x.status(), 0);
        x.force(1);
        due("force answers 1", x.force(0), 1);
        due("status behind force", x.status(), 0);
        x.sight(0, 0);
        due("sight answers 2", x.sight(0, 1), 2);
        due("status behind sight", x.status(), 0);
        x.claim(0, 0);
        due("claim answers 2", x.claim(0, 1), 2);
        due("status behind claim", x.status(), 0);
        due("bake answers 5", x.bake(0), 5);
        due("status behind bake", x.status(), 0);
        due("queues answers 10", x.queues(0, 2), 10);
        due("status behind queues", x.status(), 0);
        for (int what = 5; what <= 9; what++) {
            due("nothing was refused, " + what, x.count(what), 0);
        }
    }

    private static void promise34AheadOfAny() {
        says("Promise 34: or ahead of any");
        ThirteenthLoaf x = new ThirteenthLoaf();
        due("ahead of any", x.status(), 0);
        x.of(0, 0);
        x.feed(0, 0, 0, 0, 0);
        x.end(99);
        x.forget();
        due("behind calls of no such kind", x.status(), 0);
    }
}
