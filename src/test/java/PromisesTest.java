/** For each promise answers worked out by hand: ordinary inputs, edges, wrong inputs. */
public final class PromisesTest extends Kit {
    public static void main(String[] args) {
        promise1();
        promise2();
        promise3();
        promise4();
        promise5();
        promise6();
        promises7And8();
        promises9And10();
        promises11And12();
        faults();
        limitsOfTexts();
        promise13();
        meaning();
        brokenOnes();
        promise14();
        promise15();
        promise16();
        promise17();
        promise18();
        promise19();
        promise20();
        wayOfAYear();
        promise21();
        promise22();
        promises23And24();
        promises25And26();
        promise27();
        promise28();
        bakedByItsOrder();
        promises29And30();
        drawnByItsOrder();
        promises31And32();
        promise33();
        promise34();
        finish();
    }

    private static void promise1() {
        ThirteenthLoaf x = new ThirteenthLoaf();
        int[] atFirst = {0, 0, 0, 0, 0, 0, 0, 0, 0, 0, NONE, 13, 0, 0, 0, 0};
        for (int what = 0; what < atFirst.length; what++) {
            due("new: count " + what, x.count(what), atFirst[what]);
        }
        due("new: status", x.status(), 0);
        due("new: fault", x.fault(), NONE);
        due("new: crumbs", x.crumbs(), 0);
        due("new: orders", x.orders(), 1);
        due("new: drawn", x.drawn(0, 0), NONE);
        due("new: back", x.back(0), -2);
    }

    private static void promise2() {
        ThirteenthLoaf x = new ThirteenthLoaf();
        due("customer low", x.customer(-1, 0, 0), -1);
        due("customer base 41", x.customer(41, 0, 0), -1);
        due("customer rank 10", x.customer(0, 10, 0), -1);
        due("customer rank -1", x.customer(0, -1, 0), -1);
        due("customer oven 2", x.customer(0, 0, 2), -1);
        due("customer oven -1", x.customer(0, 0, -1), -1);
        for (int i = 0; i < 8; i++) {
            due("customer", x.customer(i == 0 ? 40 : i, i == 0 ? 9 : i, i % 2), i);
        }
        due("customer the 9th", x.customer(0, 0, 0), -5);
        due("customer the 9th that can't be", x.customer(0, 0, 7), -1);
        due("customer's base", x.of(0, 0), 40);
        due("customer's rank", x.of(0, 1), 9);
        due("customer's oven", x.of(7, 2), 1);
        due("customer's had", x.of(7, 3), 0);
        due("customer's bought", x.of(7, 4), 0);
    }

    private static void promise3() {
        ThirteenthLoaf x = with(5);
        int[] most = {40, 9, 1, 9999, 999999};
        int[] was = {5, 0, 0, 0, 0};
        for (int what = 0; what < 5; what++) {
            due("put most " + what, x.put(0, what, most[what]), was[what]);
            due("put above " + what, x.put(0, what, most[what] + 1), -1);
            due("put below " + what, x.put(0, what, -1), -1);
            due("put least " + what, x.put(0, what, 0), most[what]);
            due("put nobody " + what, x.put(1, what, 0), -2);
            due("put nobody, wrong " + what, x.put(1, what, -1), -1);
        }
        due("put what 5", x.put(0, 5, 0), -1);
        due("put what -1", x.put(0, -1, 0), -1);
        due("put -1", x.put(-1, 0, 0), -2);
    }

    private static void promise4() {
        ThirteenthLoaf x = with(5);
        due("of what 6", x.of(0, 6), NONE);
        due("of what -1", x.of(0, -1), NONE);
        due("of nobody", x.of(1, 0), NONE);
        due("of -1", x.of(-1, 5), NONE);
        due("of wants", x.of(0, 5), 5);
        x.put(0, 0, 7);
        due("of wants then", x.of(0, 5), 7);
        due("of is no refusal", x.count(5), 0);
    }

    private static void promise5() {
        ThirteenthLoaf x = with(5);
        x.put(0, 3, 2);
        x.put(0, 4, 27);
        due("owed", x.owed(0), 1);
        x.terms(0, 20);
        due("owed below 0", x.owed(0), -13);
        due("owed nobody", x.owed(1), ThirteenthLoaf.NOTHING);
        due("owed -1", x.owed(-1), -1000000000);
    }

    private static void promise6() {
        ThirteenthLoaf x = new ThirteenthLoaf();
        int[] least = {2, 0, 0, 0, 0};
        int[] most = {20, 9, 9999, 999999, 999999};
        for (int what = 0; what < 5; what++) {
            due("terms most " + what, x.terms(what, most[what]), what == 0 ? 13 : 0);
            due("terms above " + what, x.terms(what, most[what] + 1), -1);
            due("terms below " + what, x.terms(what, least[what] - 1), -1);
            due("terms least " + what, x.terms(what, least[what]), most[what]);
            due("terms count " + what, x.count(11 + what), least[what]);
        }
        due("terms 5", x.terms(5, 0), -1);
        due("terms -1", x.terms(-1, 0), -1);
    }

    private static void promises7And8() {
        ThirteenthLoaf x = new ThirteenthLoaf();
        due("end of nothing", x.end(0), 0);
        due("end beyond", x.end(1), NONE);
        for (int i = 1; i <= 20; i++) {
            due("feed", x.feed(-1, 0, 1, 2, 3), 20 * i);
        }
        due("feed beyond 400", x.feed(1, 1, 1, 1, 1), NONE);
        due("tape", x.count(4), 400);
        due("end beyond 400", x.end(401), NONE);
        due("end below 0", x.end(-1), NONE);
        due("end as it is", x.end(400), 400);
        due("end 381", x.end(381), 381);
        due("feed to 401", x.feed(0, 0, 0, 0, 0), NONE);
        due("end 380", x.end(380), 380);
        due("feed to 400", x.feed(0, 0, 0, 0, 0), 400);
        due("no refusals by it", x.count(5), 0);
        ThirteenthLoaf y = new ThirteenthLoaf();
        // 7, 3, 1 and 40, 9, 0, the highest byte of each number first.
        y.feed(0x07030128, 0x09000000, 0, 0, 0);
        y.end(6);
        due("bytes", y.row(), 2);
        due("bytes' base", y.of(0, 0) * 100 + y.of(0, 1) * 10 + y.of(0, 2), 731);
        due("bytes' base", y.of(1, 0) * 100 + y.of(1, 1) * 10 + y.of(1, 2), 4090);
        y.feed(0xff000005, 0x05010000, 0, 0, 0);
        y.end(6);
        due("a byte of 255", y.row(), 1);
        due("a byte of 255 is CRUMBS", y.crumbs(), 1);
    }

    private static void promises9And10() {
        ThirteenthLoaf x = new ThirteenthLoaf();
        due("row of nothing", x.row(), -6);
        due("crumbs ahead of any", x.crumbs(), 0);
        tape(x, "\u0005\u0003\u0001" + "\u0029\u0003\u0001" + "\u0005\n\u0001" + "\u0005\u0003\u0002"
                + "\u0006\u0000\u0000" + "\u0006");
        due("row", x.row(), 2);
        due("crumbs", x.crumbs(), 4);
        due("row empties the tape", x.count(4), 0);
        due("row's second", x.of(1, 0), 6);
        due("row of nothing again", x.row(), -6);
        due("crumbs stay", x.crumbs(), 4);
        tape(x, "\u0001\u0001\u0001".repeat(7) + "\u0001\u0001");
        due("row without room", x.row(), 6);
        due("crumbs without room", x.crumbs(), 2);
        tape(x, "\u0001\u0001\u0001");
        due("row, full", x.row(), 0);
        due("row, full, is no refusal", x.status(), 0);
        due("crumbs, full", x.crumbs(), 1);
    }

    private static void promises11And12() {
        ThirteenthLoaf x = new ThirteenthLoaf();
        due("law of nothing", x.law(), -6);
        due("fault of nothing", x.fault(), 0);
        for (int i = 0; i < 6; i++) {
            tape(x, "waits");
            due("law", x.law(), i);
            due("no fault", x.fault(), NONE);
        }
        tape(x, "nonsense");
        due("law the 7th", x.law(), -5);
        due("law the 7th takes the tape", x.count(4), 0);
        due("law the 7th is not read", x.fault(), NONE);
        due("laws", x.count(1), 6);
    }

    private static void faults() {
        dueFault("   ", 3);
        dueFault("waits", NONE);
        dueFault(" waits ; wants 5 ", NONE);
        dueFault("wants5if1<2", NONE);
        dueFault("waitsif 1<2", 0);
        dueFault("Waits", 0);
        dueFault("waits;", 6);
        dueFault("waits; ", 7);
        dueFault(";waits", 0);
        dueFault("waits waits", 6);
        dueFault("wants", 5);
        dueFault("wants if 1<2", 6);
        dueFault("wants 1000", NONE);
        dueFault("wants 1001", 6);
        dueFault("wants 0000000000000000000001000", NONE);
        dueFault("wants 99999999999999999999999999", 6);
        dueFault("wants -1", 6);
        dueFault("wants 1+", 8);
        dueFault("wants 1 2", 8);
        dueFault("wants (1)", 6);
        dueFault("wants [1", 8);
        dueFault("wants [1)", 8);
        dueFault("wants []", 7);
        dueFault("wants [1]]", 9);
        dueFault("wants who+base+rank+oven+had+day+other+theirs", NONE);
        dueFault("wants whos", 6);
        dueFault("waits if", 8);
        dueFault("waits if day", 12);
        dueFault("waits if day<", 13);
        dueFault("waits if day<1<2", 14);
        dueFault("waits if [day<1]", 13);
        dueFault("waits if (day)", 13);
        dueFault("waits if (day<1) + 1 < 2", 17);
        dueFault("waits if not", 12);
        dueFault("waits if not not (day<1 or not day>2 and day=3)", NONE);
        dueFault("waits if day<1 or", 17);
        dueFault("waits if day<1 and or day<1", 19);
        dueFault("waits if day<1 if day<1", 15);
        dueFault("waits\t", 5);
        dueFault("waits\u0000", 5);
        dueFault("waits\u00e9", 5);
        dueFault("waits <", 6);
    }

    private static void limitsOfTexts() {
        String twelve = "waits" + ";waits".repeat(11);
        dueFault(twelve, NONE);
        dueFault(twelve + ";", 72);
        dueFault(twelve + "; waits", 73);
        dueFault(twelve + "; +", 73);
        String fifty = "wants 1" + "+1".repeat(47) + ";wants day+who";
        dueFault(fifty, NONE);
        dueFault(fifty + "+7", fifty.length() + 1);
        dueFault(fifty + "+rank", fifty.length() + 1);
        dueFault(fifty + "+[[7]]", fifty.length() + 3);
        dueFault(fifty + "+", fifty.length() + 1);
        dueFault("wants " + "[".repeat(8) + "1" + "]".repeat(8), NONE);
        dueFault("wants " + "[".repeat(9) + "1" + "]".repeat(9), 14);
        dueFault("waits if " + "(".repeat(8) + "1<2" + ")".repeat(8), NONE);
        dueFault("waits if " + "(".repeat(9) + "1<2" + ")".repeat(9), 17);
        dueFault("waits if " + "(".repeat(5) + "[[[1]]]<[[[2]]]" + ")".repeat(5), NONE);
        dueFault("waits if " + "(".repeat(5) + "[[[1]]]<[[[[2]]]]" + ")".repeat(5), 25);
        dueFault("wants [1]" + "+[[1]]".repeat(9), NONE);
        dueFault("waits if " + "not ".repeat(96) + "1<2", NONE);
        dueFault("wants " + "0".repeat(394), NONE);
    }

    private static void promise13() {
        ThirteenthLoaf x = with(5);
        due("force -1 without laws", x.force(NONE), NONE);
        due("force 0 without laws", x.force(0), -2);
        rule(x, "wants 1");
        rule(x, "wants 2");
        due("force", x.count(10), 1);
        due("wants by the second", x.of(0, 5), 2);
        due("force which was", x.force(0), 1);
        due("wants by the first", x.of(0, 5), 1);
        due("force 2", x.force(2), -2);
        due("force -2", x.force(-2), -2);
        due("force stays", x.count(10), 0);
        due("force none", x.force(NONE), 0);
        due("wants by none", x.of(0, 5), 5);
    }

    private static void meaning() {
        dueWants("waits", 6);
        dueWants("wants 9", 9);
        dueWants("wants 41", 40);
        dueWants("wants 1-2", 0);
        dueWants("wants who", 1);
        dueWants("wants base", 6);
        dueWants("wants rank", 4);
        dueWants("wants oven", 1);
        dueWants("wants had", 3);
        dueWants("wants day", 9);
        dueWants("wants other+20", 19);
        dueWants("wants theirs+20", 19);
        dueWants("wants 2+3*4", 14);
        dueWants("wants [2+3]*4", 20);
        dueWants("wants 20-5-3", 12);
        dueWants("wants 20/3/2", 3);
        dueWants("wants 20+[0-7]/2", 17);
        dueWants("wants 7; wants 8", 8);
        dueWants("wants 7; wants 8 if day<9", 7);
        dueWants("wants 7 if day>9; wants 8 if not day=9", 6);
        dueWants("wants 8 if 1=1 or 1=2 and 1=2", 8);
        dueWants("wants 8 if (1=1 or 1=2) and 1=2", 6);
        dueWants("wants 8 if not 1=2 and 1=2", 6);
        dueWants("wants 8 if not (1=2 and 1=2)", 8);
        dueWants("wants 8 if not not 1=1", 8);
        dueWants("wants 8 if 1<1 or 1>1 or 1=1", 8);
    }

    private static void brokenOnes() {
        dueWants("wants 1/0", 6);
        dueWants("wants 7; wants 1/0", 7);
        dueWants("wants 7; wants 8 if 1/0=1", 7);
        dueWants("wants 7; wants 8 if not 1/0=1", 7);
        dueWants("wants 1000*1000*1000", 40);
        dueWants("wants 1000*1000*1000+1", 6);
        dueWants("wants 1000*1000*1000+1-1", 6);
        dueWants("wants 0-1000*1000*1000", 0);
        dueWants("wants 0-1000*1000*1000-1", 6);
        dueWants("wants 1000*1000*1000*1000*1000*1000*1000*1000", 6);
        dueWants("wants [1000*1000*1000+1]*0", 6);
        dueWants("wants 8 if 1=1 or 1/0=1", 8);
        dueWants("wants 8 if 1=2 or 1/0=1", 6);
        dueWants("wants 8 if 1/0=1 or 1=1", 6);
        dueWants("wants 8 if not (1=2 and 1/0=1)", 8);
        dueWants("wants 8 if not (1=1 and 1/0=1)", 6);
        dueWants("wants 8 if 1=2 and 1/0=1 or 1=1", 8);
        dueWants("wants 8 if 1=1 or 1=1 and 1/0=1", 8);
    }

    private static void promise14() {
        ThirteenthLoaf x = new ThirteenthLoaf();
        x.customer(1, 4, 0);
        x.customer(1, 7, 0);
        due("waits without a law", x.waits(0, 1), 0);
        due("waits for himself", x.waits(1, 1), NONE);
        due("waits for nobody", x.waits(0, 2), NONE);
        due("waits of nobody", x.waits(-1, 0), NONE);
        rule(x, "waits if theirs=7");
        due("waits by theirs", x.waits(0, 1) * 10 + x.waits(1, 0), 10);
        rule(x, "waits if other=0; wants 3");
        due("waits by other", x.waits(0, 1) * 10 + x.waits(1, 0), 1);
        rule(x, "waits if 1/0=1; waits if rank=4");
        due("waits by the second clause", x.waits(0, 1) * 10 + x.waits(1, 0), 10);
        rule(x, "wants 3");
        due("waits without a clause", x.waits(0, 1), 0);
        rule(x, "waits if had=2 and day=6");
        due("waits by had, not yet", x.waits(0, 1), 0);
        x.put(0, 3, 2);
        x.terms(2, 6);
        due("waits by had", x.waits(0, 1), 1);
    }

    private static void promise15() {
        ThirteenthLoaf x = new ThirteenthLoaf();
        due("blessed 0", x.blessed(0, 0), NONE);
        due("blessed what 2", x.blessed(1, 2), NONE);
        due("blessed what -1", x.blessed(1, -1), NONE);
        due("blessed 1,000,000", x.blessed(1000000, 1), 76923);
        due("blessed 1,000,001", x.blessed(1000001, 1), NONE);
        due("blessed 999,999 is", x.blessed(999999, 0), 1);
        x.terms(0, 2);
        x.terms(1, 3);
        // Dozens of 2, 2, 3: BLESSED are 2, 4, 7, 9, 11, 14.
        int[] is = {0, 1, 0, 1, 0, 0, 1, 0, 1, 0, 1, 0, 0, 1};
        int many = 0;
        for (int n = 1; n <= is.length; n++) {
            many += is[n - 1];
            due("blessed " + n, x.blessed(n, 0), is[n - 1]);
            due("blessed up to " + n, x.blessed(n, 1), many);
        }
        x.terms(1, 1);
        due("blessed with leap 1", x.blessed(3, 0) * 100 + x.blessed(2, 0) * 10 + x.blessed(6, 1), 102);
    }

    private static void promise16() {
        ThirteenthLoaf x = new ThirteenthLoaf();
        x.customer(10, 0, 0);
        x.customer(20, 0, 1);
        x.customer(0, 0, 0);
        x.customer(30, 0, 0);
        x.terms(3, 2);
        x.terms(4, 5);
        due("served first of 0", x.served(0, 1), 3);
        due("served first of 1", x.served(1, 1), 6);
        due("served first of 2", x.served(2, 1), NONE);
        due("served first of 3", x.served(3, 1), 13);
        due("served of 0", x.served(0, 0), 0);
        due("served of 1", x.served(1, 0), 1);
        due("served of 2", x.served(2, 0), 0);
        due("served of 3", x.served(3, 0), 3);
        due("served what 2", x.served(3, 2), NONE);
        due("served what -1", x.served(3, -1), NONE);
        due("served nobody", x.served(4, 0), NONE);
        rule(x, "waits if who<other");
        due("served as TOLD, ORDER or not", x.served(3, 1), 13);
    }

    private static void promise17() {
        ThirteenthLoaf x = with(1, 1, 1, 1);
        due("orders", x.orders(), 24);
        rule(x, "waits if who=0 and other=3");
        due("orders, one waits", x.orders(), 12);
        rule(x, "waits if who<other");
        due("orders, all in a chain", x.orders(), 1);
        rule(x, "waits if who=0 and other=1 or who=1 and other=0");
        due("orders, none", x.orders(), 0);
        due("orders of eight", with(1, 1, 1, 1, 1, 1, 1, 1).orders(), 40320);
    }

    private static void promise18() {
        ThirteenthLoaf x = with(2, 3, 8);
        x.terms(0, 5);
        // 5 and 10 are BLESSED: two get one, but for 2 between the others, who then gets both.
        due("best", x.best(0), 2);
        due("best in orders", x.best(1), 4);
        due("best's row", x.best(2) * 100 + x.best(3) * 10 + x.best(4), 12);
        due("best beyond", x.best(5), NONE);
        due("best -1", x.best(-1), NONE);
        rule(x, "waits if who=0 and other=1");
        due("best's row, one waits", x.best(2) * 100 + x.best(3) * 10 + x.best(4), 102);
        rule(x, "waits");
        due("best without orders", x.best(0), NONE);
        due("best in no orders", x.best(1), 0);
        due("best's row without orders", x.best(2), NONE);
        ThirteenthLoaf y = new ThirteenthLoaf();
        due("best of nobody", y.best(0), 0);
        due("best of nobody in orders", y.best(1), 1);
        due("best of nobody's row", y.best(2), NONE);
    }

    private static void promise19() {
        ThirteenthLoaf x = with(5, 8);
        x.put(0, 4, 7);
        // 0 first: 12 and -5; 1 first: -1 and 8.
        due("fairest", x.fairest(0), 8);
        due("fairest's row", x.fairest(1) * 10 + x.fairest(2), 10);
        due("fairest beyond", x.fairest(3), NONE);
        due("fairest -1", x.fairest(-1), NONE);
        rule(x, "waits");
        due("fairest without orders", x.fairest(0), NONE);
        due("fairest's row without orders", x.fairest(1), NONE);
        due("fairest of nobody", new ThirteenthLoaf().fairest(0), 0);
        due("fairest of nobody's row", new ThirteenthLoaf().fairest(1), NONE);
        // One who is owed most whatever the ORDER: the first ORDER of all is as fair as any.
        ThirteenthLoaf y = with(5, 8, 0);
        y.put(0, 4, 7);
        y.put(2, 4, 500);
        due("fairest by one alone", y.fairest(0), 500);
        due("fairest by one's row", y.fairest(1) * 100 + y.fairest(2) * 10 + y.fairest(3), 12);
    }

    private static void promise20() {
        ThirteenthLoaf x = with(5, 8);
        due("year", x.year(NONE), 2);
        due("year's first day", x.year(0), 1);
        due("year's second day", x.year(1), 3);
        due("year's third day", x.year(2), NONE);
        due("year -2", x.year(-2), NONE);
        due("year changes nothing", x.count(13) + x.count(14) + x.of(0, 4), 0);
        x.put(0, 0, 0);
        due("year, one wants none", x.year(NONE), NONE);
        due("year, one wants none, day", x.year(0), NONE);
        due("year of nobody", new ThirteenthLoaf().year(NONE), NONE);
        ThirteenthLoaf y = with(1);
        y.terms(0, 20);
        due("year of 20", y.year(NONE), 20);
        due("year of 20, the 19th", y.year(18), 0);
        due("year of 20, the 20th", y.year(19), 1);
        rule(y, "wants 0; wants 20 if day=29");
        due("year of 30", y.year(NONE), 30);
        rule(y, "wants 0; wants 20 if day=30");
        due("year of 31", y.year(NONE), NONE);
        y.terms(2, 1);
        due("year of 31, a day on", y.year(NONE), 30);
        y.customer(20, 0, 1);
        rule(y, "wants 20; waits if day=3");
        due("year ahead of a day without orders", y.year(NONE), 1);
        rule(y, "wants 20; waits if day=1");
        due("year from a day without orders", y.year(NONE), NONE);
        y.terms(2, 9999);
        rule(y, "wants 20 if day/10=1000");
        y.put(1, 0, 0);
        due("year beyond the last day", y.year(NONE), 2);
    }

    private static void wayOfAYear() {
        ThirteenthLoaf x = with(0, 0, 0);
        x.terms(0, 2);
        rule(x, "wants 2 if who=2 and day=0; wants 1 if who<2 and day>0");
        // The one in the first two days is 2 alone, then 0 or 1, whoever comes second.
        due("three days", x.year(NONE), 3);
        due("2 behind the first", x.year(0), 4);
        due("0 too behind the second, as 1 too is higher", x.year(1), 5);
        due("all behind the third", x.year(2), 7);
    }

    private static void promise21() {
        ThirteenthLoaf x = with(5, 8, 26);
        due("chances of two", x.chances(2, 2), 6);
        due("chances of one", x.chances(2, 1), 0);
        due("chances of 0", x.chances(0, 0), 3);
        due("chances of 1", x.chances(0, 1), 3);
        due("chances -1", x.chances(0, -1), NONE);
        due("chances 20", x.chances(0, 20), 0);
        due("chances 21", x.chances(0, 21), NONE);
        due("chances of nobody", x.chances(3, 0), NONE);
        rule(x, "waits if who=0");
        due("chances, he is last", x.chances(0, 1), 2);
        rule(x, "waits");
        due("chances without orders", x.chances(0, 0), 0);
        ThirteenthLoaf y = with(40);
        y.terms(0, 2);
        due("chances of 20", y.chances(0, 20), 1);
    }

    private static void promise22() {
        ThirteenthLoaf x = with(5, 8);
        // Each DAY's 13 loaves begin with a dozen: who comes first gets none.
        due("never, 1 day", x.never(0, 1), 1);
        due("never, 4 days", x.never(0, 4), 1);
        due("never, 0 days", x.never(0, 0), NONE);
        due("never, 5 days", x.never(0, 5), NONE);
        due("never, nobody", x.never(2, 1), NONE);
        due("never, -1", x.never(-1, 1), NONE);
        due("never changes nothing", x.count(13) + x.count(14), 0);
        ThirteenthLoaf y = with(0, 1, 1, 1, 1, 1, 1, 1);
        due("never, all orders", y.never(0, 4), 40320L * 40320L * 40320L * 40320L);
        rule(y, "waits if day=2");
        due("never, two days", y.never(0, 2), 40320L * 40320L);
        due("never, a day without orders", y.never(0, 3), 0);
        ThirteenthLoaf z = with(6, 6);
        // The second DAY begins behind 12 loaves: who comes first gets the 13th.
        due("never, baked goes on", z.never(0, 2), 2);
        rule(z, "wants 6; wants 13 if day=1 and who=0");
        due("never, wants by the day", z.never(0, 2), 0);
    }

    private static void promises23And24() {
        ThirteenthLoaf x = new ThirteenthLoaf();
        x.customer(5, 0, 0);
        x.customer(3, 0, 1);
        x.customer(4, 0, 0);
        due("counts of all", x.counts(0, NONE), 13);
        due("sight", x.sight(0, 1), 1);
        due("counts", x.counts(0, NONE), 5);
        due("counts' first", x.counts(0, 0), 8);
        due("counts' last", x.counts(0, 4), 12);
        due("counts beyond", x.counts(0, 5), NONE);
        due("counts -2", x.counts(0, -2), NONE);
        due("counts of oven 2", x.counts(2, NONE), NONE);
        due("counts of oven -1", x.counts(-1, NONE), NONE);
        due("counts of the other", x.counts(1, NONE), 13);
        due("sight the second", x.sight(1, 0), 2);
        due("counts of the other then", x.counts(1, NONE), 10);
        due("counts stay", x.counts(0, NONE), 5);
        due("sight of 2", x.sight(2, 1), 3);
        due("counts, none", x.counts(0, NONE), 0);
        due("counts, none's first", x.counts(0, 0), NONE);
        due("sight 21", x.sight(0, 21), -1);
        due("sight -1", x.sight(0, -1), -1);
        due("sight nobody", x.sight(3, 0), -2);
        due("sight nobody, 21", x.sight(3, 21), -1);
        for (int i = 4; i <= 8; i++) {
            due("sight", x.sight(0, 20), i);
        }
        due("sight the 9th", x.sight(0, 0), -5);
        due("sight the 9th of nobody", x.sight(9, 0), -2);
        ThirteenthLoaf y = with(3);
        y.terms(0, 2);
        y.terms(1, 2);
        due("counts of a round with leap", y.counts(0, NONE), 5);
        y.sight(0, 2);
        // BLESSED are 2, 5, 7: two of them within three loaves only in 5, 6, 7.
        due("counts with leap", y.counts(0, NONE), 1);
        due("counts with leap, which", y.counts(0, 0), 4);
        y.put(0, 0, 4);
        due("counts by what he wants now", y.counts(0, NONE), 3);
    }

    private static void promises25And26() {
        ThirteenthLoaf x = with(5, 8, 26);
        due("wrong without claims", x.wrong(0), 0);
        due("wrong without claims, in orders", x.wrong(1), 6);
        due("claim", x.claim(0, 1), 1);
        due("wrong", x.wrong(0), 0);
        due("wrong in orders", x.wrong(1), 3);
        due("wrong's row", x.wrong(2) * 100 + x.wrong(3) * 10 + x.wrong(4), 102);
        due("claim of 1", x.claim(1, 1), 2);
        due("claim of 1 again", x.claim(1, 1), 3);
        due("wrong, one at least", x.wrong(0), 1);
        due("wrong, one, in orders", x.wrong(1), 3);
        due("wrong, one, row", x.wrong(2) * 100 + x.wrong(3) * 10 + x.wrong(4), 12);
        due("wrong beyond", x.wrong(5), NONE);
        due("wrong -1", x.wrong(-1), NONE);
        rule(x, "waits");
        due("wrong without orders", x.wrong(0), NONE);
        due("wrong in no orders", x.wrong(1), 0);
        due("wrong's row without orders", x.wrong(2), NONE);
        due("claim 21", x.claim(0, 21), -1);
        due("claim -1", x.claim(0, -1), -1);
        due("claim nobody", x.claim(3, 0), -2);
        for (int i = 4; i <= 8; i++) {
            due("claim", x.claim(0, 20), i);
        }
        due("claim the 9th", x.claim(0, 0), -5);
        due("claims are no sights", x.count(2) * 10 + x.count(3), 8);
        due("wrong of nobody", new ThirteenthLoaf().wrong(0), 0);
        due("wrong of nobody in orders", new ThirteenthLoaf().wrong(1), 1);
    }

    private static void promise27() {
        ThirteenthLoaf x = with(5);
        due("forget nothing", x.forget(), 0);
        x.sight(0, 1);
        x.sight(0, 0);
        x.claim(0, 1);
        due("wrong by the claim", x.wrong(0), 1);
        due("forget", x.forget(), 3);
        due("forgotten", x.count(2) + x.count(3), 0);
        due("wrong no more", x.wrong(0), 0);
        due("counts of all again", x.counts(0, NONE), 13);
    }

    private static void promise28() {
        ThirteenthLoaf x = with(5, 8);
        due("bake 3", x.bake(3), -1);
        due("bake -1", x.bake(-1), -1);
        due("bake as TOLD", x.bake(0), 1);
        due("had of 0", x.of(0, 3), 0);
        due("had of 1", x.of(1, 3), 1);
        due("bought", x.of(0, 4) * 10 + x.of(1, 4), 58);
        due("baked, day", x.count(14) * 10 + x.count(13), 131);
        due("bake by FAIREST", x.bake(2), 1);
        due("had of 0 then", x.of(0, 3), 1);
        x.put(0, 0, 13);
        // Of 27 to 47 only the 39th is BLESSED, and 0 gets it by either ORDER.
        due("bake by BEST", x.bake(1), 1);
        due("had then", x.of(0, 3) * 10 + x.of(1, 3), 21);
        rule(x, "waits");
        due("bake by BEST, no order", x.bake(1), -3);
        due("bake by FAIREST, no order", x.bake(2), -3);
        due("bake as TOLD, no order", x.bake(0), 2);
        x.force(NONE);
        x.terms(2, 9999);
        due("bake beyond the last day", x.bake(0), -5);
        due("nothing done", x.count(13), 9999);
        x.terms(2, 9998);
        x.terms(3, 999979);
        due("bake beyond the most loaves", x.bake(1), -5);
        due("nothing baked", x.count(14), 999979);
        x.terms(3, 999978);
        due("bake up to the most", x.bake(0), 2);
        due("baked the most", x.count(14) + x.count(13), 999999 + 9999);
        ThirteenthLoaf y = with(13, 5);
        y.put(0, 3, 9999);
        y.put(1, 4, 999994);
        due("bake beyond the most had", y.bake(0), -5);
        due("nothing bought", y.of(1, 4), 999994);
        y.put(0, 3, 9998);
        due("bake up to the most had", y.bake(0), 1);
        due("bake beyond the most bought", y.bake(0), -5);
        due("had stays", y.of(0, 3), 9999);
        due("bake of nobody", new ThirteenthLoaf().bake(2), 0);
    }

    /** BEST is 1 ahead of 0, who get a 13th and a 26th loaf; by number 1 gets both. */
    private static ThirteenthLoaf bestIsNotByNumber() {
        ThirteenthLoaf x = with(12, 14);
        x.put(0, 3, 2);
        return x;
    }

    private static void bakedByItsOrder() {
        ThirteenthLoaf told = bestIsNotByNumber();
        due("as TOLD", told.bake(0), 2);
        due("as TOLD, had", told.of(0, 3) * 10 + told.of(1, 3), 22);
        ThirteenthLoaf best = bestIsNotByNumber();
        best.claim(1, 2);
        due("BEST", digits(best.best(2), best.best(3)), 10);
        due("by BEST", best.bake(1), 2);
        due("by BEST, had", best.of(0, 3) * 10 + best.of(1, 3), 31);
        due("by BEST, bought", best.of(0, 4) * 100 + best.of(1, 4), 1214);
        ThirteenthLoaf fairest = bestIsNotByNumber();
        fairest.claim(1, 1);
        due("FAIREST", digits(fairest.fairest(1), fairest.fairest(2)), 1);
        due("by FAIREST", fairest.bake(2), 2);
        due("by FAIREST, had", fairest.of(0, 3) * 10 + fairest.of(1, 3), 22);
        fairest.put(1, 3, 9);
        // Now 1 is to get as few as can be.
        due("FAIREST then", digits(fairest.fairest(1), fairest.fairest(2)), 10);
        due("by FAIREST then", fairest.bake(2), 2);
        due("by FAIREST then, had", fairest.of(0, 3) * 10 + fairest.of(1, 3), 40);
        ThirteenthLoaf much = bestIsNotByNumber();
        much.put(0, 4, 999988);
        due("by BEST, 0 beyond the most bought", much.bake(1), -5);
        much.put(0, 4, 999987);
        due("by BEST, 0 up to the most bought", much.bake(1), 2);
        due("by BEST, the most bought", much.of(0, 4), 999999);
        ThirteenthLoaf had = with(13, 5, 8);
        had.put(1, 3, 9999);
        due("he who gets none may have had the most", had.bake(0), 2);
        due("had the most", had.of(1, 3), 9999);
        ThirteenthLoaf both = with(13, 13, 1);
        both.customer(4, 0, 1);
        both.customer(2, 0, 0);
        due("of both ovens", both.bake(0), 2);
        due("baked by each, one by one", both.count(14) * 100 + both.count(15), 2904);
    }

    private static void drawnByItsOrder() {
        ThirteenthLoaf x = bestIsNotByNumber();
        // The first draw from 0 is 12345, the second one of two.
        due("queues", x.queues(0, 1), 2);
        due("1 stood first", x.drawn(0, 1) * 10 + x.drawn(1, 1), 10);
        due("one each", x.drawn(0, 0) * 10 + x.drawn(1, 0), 11);
    }

    private static void promises29And30() {
        ThirteenthLoaf x = with(5, 8);
        due("drawn ahead of any", x.drawn(0, 0), NONE);
        due("queues seed -1", x.queues(-1, 1), -1);
        due("queues seed 1,000,001", x.queues(1000001, 1), -1);
        due("queues 0 days", x.queues(0, 0), -1);
        due("queues 21 days", x.queues(0, 21), -1);
        // Draws from 0: 12345 (the second one of two), 628841.
        due("queues", x.queues(0, 1), 1);
        due("drawn places", x.drawn(0, 1) * 10 + x.drawn(1, 1), 10);
        due("drawn blessed", x.drawn(0, 0) * 10 + x.drawn(1, 0), 10);
        due("queues are on paper", x.count(13) + x.count(14) + x.of(0, 3) + x.of(0, 4), 0);
        due("queues of 20 days", x.queues(1000000, 20), 20);
        due("drawn of 20 days", x.drawn(0, 0) + x.drawn(1, 0), 20);
        due("drawn what 2", x.drawn(0, 2), NONE);
        due("drawn what -1", x.drawn(0, -1), NONE);
        due("drawn nobody", x.drawn(2, 0), NONE);
        x.customer(1, 1, 1);
        due("drawn of one who came behind", x.drawn(2, 0), NONE);
        x.terms(2, 9990);
        due("queues beyond the last day", x.queues(0, 10), -5);
        due("the latest stay", x.drawn(0, 0) + x.drawn(1, 0), 20);
        due("queues up to the last day", x.queues(0, 9), 9);
        rule(x, "waits if who<other; wants 13 if had=0; wants 0 if had>0");
        x.terms(2, 0);
        // Each gets one on the first DAY, and wants no more.
        due("queues by what each then wants", x.queues(7, 20), 3);
        due("queues by waiting", x.drawn(0, 1) * 100 + x.drawn(1, 1) * 10 + x.drawn(2, 1), 210);
        due("queues, one each", x.drawn(0, 0) * 100 + x.drawn(1, 0) * 10 + x.drawn(2, 0), 111);
        due("queues of nobody", new ThirteenthLoaf().queues(0, 20), 0);
    }

    private static void promises31And32() {
        ThirteenthLoaf x = with(5);
        due("image -1", x.image(-1), -1);
        due("image 2", x.image(2), -1);
        due("back 2", x.back(2), -1);
        due("back -1", x.back(-1), -1);
        due("back to none", x.back(1), -2);
        rule(x, "wants 7");
        x.sight(0, 1);
        x.claim(0, 1);
        due("image 1", x.image(1), 0);
        x.customer(6, 0, 0);
        x.put(0, 0, 9);
        x.put(0, 4, 99);
        x.terms(0, 20);
        rule(x, "wants 8");
        x.forget();
        x.queues(0, 1);
        tape(x, "nonsense");
        x.law();
        tape(x, "\u0001\u0001");
        x.row();
        tape(x, "abc");
        due("image 0", x.image(0), 0);
        due("back to 1", x.back(1), 0);
        due("back: customers", x.count(0), 1);
        due("back: base, bought", x.of(0, 0) * 100 + x.of(0, 4), 500);
        due("back: dozen", x.count(11), 13);
        due("back: laws, force", x.count(1) * 10 + x.count(10), 10);
        due("back: wants", x.of(0, 5), 7);
        due("back: sights, claims", x.count(2) * 10 + x.count(3), 11);
        due("back: not the tape", x.count(4), 3);
        due("back: not the fault", x.fault(), 0);
        due("back: not the crumbs", x.crumbs(), 1);
        due("back: not the queues", x.drawn(1, 1) + x.drawn(0, 1), 1);
        due("back: not the refusals", x.count(9), 1);
        due("back to 0", x.back(0), 0);
        due("back to 0: customers", x.count(0), 2);
        due("back to 0: wants", x.of(0, 5), 8);
        due("back to 1 again", x.back(1), 0);
        due("images stay", x.count(0) * 10 + x.of(0, 5), 17);
        rule(x, "wants 3");
        due("a law behind it", x.of(0, 5), 3);
        due("back to 0 once more", x.back(0), 0);
        due("the other image's law", x.of(0, 5), 8);
    }

    private static void promise33() {
        ThirteenthLoaf x = with(5);
        due("count -1", x.count(-1), NONE);
        due("count 16", x.count(16), NONE);
        x.customer(41, 0, 0);
        x.put(1, 0, 0);
        x.put(1, 0, -1);
        rule(x, "waits");
        x.customer(1, 1, 1);
        x.bake(1);
        x.bake(2);
        x.bake(1);
        x.terms(2, 9999);
        x.bake(0);
        x.row();
        x.law();
        x.of(9, 9);
        x.end(-1);
        due("count by -1", x.count(5), 2);
        due("count by -2", x.count(6), 1);
        due("count by -3", x.count(7), 3);
        due("count by -5", x.count(8), 1);
        due("count by -6", x.count(9), 2);
        x.feed(1, 2, 3, 4, 5);
        due("count of bytes", x.count(4), 20);
    }

    private static void promise34() {
        ThirteenthLoaf x = with(5);
        x.customer(41, 0, 0);
        due("status of customer", x.status(), -1);
        x.of(0, 9);
        x.end(9);
        x.forget();
        x.blessed(0, 0);
        due("status stays", x.status(), -1);
        x.put(0, 0, 1);
        due("status of put", x.status(), 0);
        x.put(1, 0, 1);
        due("status of put, nobody", x.status(), -2);
        x.terms(2, 1);
        due("status of terms", x.status(), 0);
        x.row();
        due("status of row", x.status(), -6);
        x.force(NONE);
        due("status of force, which answers -1", x.status(), 0);
        x.law();
        due("status of law", x.status(), -6);
        x.sight(0, 1);
        due("status of sight", x.status(), 0);
        x.force(3);
        due("status of force", x.status(), -2);
        x.claim(0, 1);
        due("status of claim", x.status(), 0);
        x.bake(9);
        due("status of bake", x.status(), -1);
        x.queues(0, 1);
        due("status of queues", x.status(), 0);
        x.back(0);
        due("status of back", x.status(), -2);
        x.image(0);
        due("status of image", x.status(), 0);
    }
}
