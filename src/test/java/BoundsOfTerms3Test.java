/** 'Terms' III, sentence by sentence: loaves, ORDERS, a YEAR, SIGHTS, COUNTS and CLAIMS. */
public final class BoundsOfTerms3Test extends Kit {
    public static void main(String[] args) {
        dozensOfDozenLoaves();
        eachLeapThOneMore();
        numberedAsTheyAreBaked();
        ovensCountApart();
        dozensByTheTermsAsTheyAre();
        ordersOfNobodyAndOne();
        ordersInWhichNobodyIsAhead();
        ordersInACircle();
        ordersThatBeginButNeverEnd();
        nextLoavesOfHisOven();
        nextLoavesOfTheSecondOven();
        toldIfAnOrderOrNot();
        bestAtLeastOne();
        bestIsTheFirst();
        owedBelow0();
        fairestIsTheGreatestOfAll();
        fairestEitherWay();
        fairestAtTheMost();
        fairestIsTheFirst();
        yearOfOneDay();
        yearOf30Days();
        yearOfManyWays();
        yearWithHadAsItIs();
        yearWithDaysOn();
        yearBeyondTheMost();
        yearByOrders();
        wayByTheLowestSet();
        wayThatCanStillBeDone();
        yearOfEightInAnyOrder();
        chancesOfJustSoMany();
        sightsAreEightAtMost();
        sightsAsTold();
        countsLessThanARound();
        countsBySightsOfItsCustomers();
        claimsAreEightAtMost();
        fewestFalse();
        falseWhoeverClaimsFirst();
        finish();
    }

    private static ThirteenthLoaf dozens(int dozen, int leap) {
        ThirteenthLoaf x = new ThirteenthLoaf();
        x.terms(0, dozen);
        x.terms(1, leap);
        return x;
    }

    /** Of loaves 1, 2 .. up to the last of these just these are BLESSED. */
    private static void dueBlessed(ThirteenthLoaf x, int... blessed) {
        int many = 0;
        for (int n = 1; n <= blessed[blessed.length - 1]; n++) {
            boolean is = blessed[many] == n;
            many += is ? 1 : 0;
            due("loaf " + n, x.blessed(n, 0), is ? 1 : 0);
            due("loaves up to " + n, x.blessed(n, 1), many);
        }
    }

    private static void dozensOfDozenLoaves() {
        says("dozens of DOZEN loaves each .. (LEAP 0: none); the last of each is BLESSED");
        dueBlessed(dozens(2, 0), 2, 4, 6);
        dueBlessed(dozens(13, 0), 13, 26, 39);
        dueBlessed(dozens(20, 0), 20, 40, 60);
        due("of a million by 2", dozens(2, 0).blessed(1000000, 1), 500000);
        due("of one less by 2", dozens(2, 0).blessed(999999, 1), 499999);
        due("of a million by 20", dozens(20, 0).blessed(1000000, 1), 50000);
        due("the last of a million by 20", dozens(20, 0).blessed(1000000, 0), 1);
    }

    private static void eachLeapThOneMore() {
        says("each LEAP-th of them one more");
        dueBlessed(dozens(2, 1), 3, 6, 9);
        dueBlessed(dozens(2, 2), 2, 5, 7, 10);
        dueBlessed(dozens(2, 3), 2, 4, 7, 9, 11, 14);
        dueBlessed(dozens(2, 9), 2, 4, 6, 8, 10, 12, 14, 16, 19, 21, 23, 25, 27, 29, 31, 33, 35, 38);
        dueBlessed(dozens(20, 1), 21, 42);
        dueBlessed(dozens(20, 9), 20, 40, 60, 80, 100, 120, 140, 160, 181, 201);
        // 5524 rounds of 181 are 999,844 loaves; 156 more have seven.
        due("of a million by 20 and 9", dozens(20, 9).blessed(1000000, 1), 5524 * 9 + 7);
        due("the last round's end", dozens(20, 9).blessed(999844, 0), 1);
        due("one ahead of it", dozens(20, 9).blessed(999843, 0), 0);
    }

    private static void numberedAsTheyAreBaked() {
        says("Loaves of an OVEN are numbered 1, 2 .. as they are BAKED");
        ThirteenthLoaf x = with(40);
        due("the first of all", x.served(0, 1), 1);
        x.terms(3, 999999);
        due("the first behind the most", x.served(0, 1), 1000000);
        // 999,999 is 76,923 dozens: 1,000,012, 1,000,025 and 1,000,038 are BLESSED.
        due("blessed behind the most", x.served(0, 0), 3);
        x.terms(3, 999998);
        due("the last dozen's end is his", x.served(0, 0), 4);
        x.put(0, 0, 1);
        due("and it alone", x.served(0, 0), 1);
    }

    private static void ovensCountApart() {
        says("BAKED by OVENS 0, 1 so far");
        ThirteenthLoaf x = new ThirteenthLoaf();
        x.customer(1, 0, 0);
        x.customer(1, 0, 1);
        x.terms(3, 12);
        due("the 13th of OVEN 0", x.served(0, 0), 1);
        due("the first of OVEN 1", x.served(1, 0), 0);
        x.terms(3, 0);
        x.terms(4, 12);
        due("the first of OVEN 0", x.served(0, 0), 0);
        due("the 13th of OVEN 1", x.served(1, 0), 1);
        due("its number", x.served(1, 1), 13);
        x.put(1, 2, 0);
        due("his OVEN is another then", x.served(1, 1), 2);
    }

    private static void dozensByTheTermsAsTheyAre() {
        says("Loaves of an OVEN are numbered 1, 2 ..: dozens of DOZEN loaves each");
        ThirteenthLoaf x = with(1);
        x.terms(3, 12);
        due("by 13", x.served(0, 0), 1);
        x.terms(0, 12);
        due("by 12", x.served(0, 0), 0);
        x.terms(1, 1);
        due("by 12 and one more", x.served(0, 0), 1);
    }

    private static void ordersOfNobodyAndOne() {
        says("An ORDER of a DAY are all CUSTOMERS in a row");
        ThirteenthLoaf x = new ThirteenthLoaf();
        rule(x, "waits");
        due("orders of nobody", x.orders(), 1);
        x.customer(1, 1, 1);
        due("orders of one", x.orders(), 1);
        x.customer(1, 1, 1);
        due("orders of two who wait", x.orders(), 0);
        x.force(NONE);
        int all = 2;
        for (int n = 3; n <= 8; n++) {
            x.customer(1, 1, 1);
            all *= n;
            due("orders of " + n, x.orders(), all);
        }
    }

    private static void ordersInWhichNobodyIsAhead() {
        says("in which nobody is ahead of one for whom he WAITS");
        ThirteenthLoaf x = with(1, 1, 1, 1, 1, 1, 1, 1);
        rule(x, "waits if who=7 and other=0");
        due("one waits for one", x.orders(), 20160);
        rule(x, "waits if who=0");
        due("one waits for all", x.orders(), 5040);
        due("he is the last", x.best(9), 0);
        rule(x, "waits if who<other");
        due("each waits for all behind", x.orders(), 1);
        due("the first is 7", x.best(2), 7);
    }

    private static void ordersInACircle() {
        says("in which nobody is ahead of one for whom he WAITS");
        ThirteenthLoaf x = with(1, 1, 1, 1);
        rule(x, "waits if other=who+1");
        due("a chain", x.orders(), 1);
        rule(x, "waits if other=who+1 or who=3 and other=0");
        due("a circle of four", x.orders(), 0);
        rule(x, "waits if who=0 and other=1 or who=1 and other=0");
        due("a circle of two among four", x.orders(), 0);
    }

    private static void ordersThatBeginButNeverEnd() {
        says("An ORDER of a DAY are all CUSTOMERS in a row, in which nobody is ahead of one for whom he WAITS");
        for (int free = 0; free < 4; free++) {
            ThirteenthLoaf x = with(13, 5, 8, 6);
            // He can be served, and then nobody can.
            rule(x, "waits if (who<" + free + " or who>" + free + ") and (other<" + free + " or other>" + free + ")");
            due("he waits for nobody, " + free, x.waits(free, (free + 1) % 4), 0);
            due("orders", x.orders(), 0);
            due("best", x.best(0), NONE);
            due("best in orders", x.best(1), 0);
            due("best's first", x.best(2), NONE);
            due("fairest", x.fairest(0), NONE);
            due("fairest's first", x.fairest(1), NONE);
            due("wrong", x.wrong(0), NONE);
            due("wrong in orders", x.wrong(1), 0);
            due("wrong's first", x.wrong(2), NONE);
            due("chances", x.chances(free, 0) + x.chances(free, 1), 0);
            due("never", x.never(free, 1), 0);
            due("year", x.year(NONE), NONE);
            due("bake by BEST", x.bake(1), -3);
            due("bake by FAIREST", x.bake(2), -3);
        }
    }

    private static void nextLoavesOfHisOven() {
        says("one by one gets as many of the next loaves of his OVEN as he WANTS");
        ThirteenthLoaf x = new ThirteenthLoaf();
        x.customer(6, 0, 0);
        x.customer(40, 0, 1);
        x.customer(0, 0, 0);
        x.customer(7, 0, 0);
        due("the other OVEN's loaves are not between", x.served(3, 1), 7);
        due("up to the 13th", x.served(3, 0), 1);
        x.put(3, 0, 6);
        due("up to the 12th", x.served(3, 0), 0);
        due("who wants none gets none", x.served(2, 0), 0);
        x.terms(3, 12);
        due("the 13th is the first one's", x.served(0, 0), 1);
        due("and nobody's else", x.served(2, 0) + x.served(3, 0), 0);
    }

    /** Three of OVEN 1, of which 18 were BAKED: 26 and 39 come next. */
    private static void nextLoavesOfTheSecondOven() {
        says("one by one gets as many of the next loaves of his OVEN as he WANTS");
        ThirteenthLoaf x = new ThirteenthLoaf();
        x.customer(40, 0, 0);
        x.customer(4, 0, 1);
        x.customer(3, 0, 1);
        x.customer(5, 0, 1);
        x.terms(4, 18);
        due("the first's", x.served(1, 1), 19);
        due("the second's", x.served(2, 1), 23);
        due("the third's", x.served(3, 1), 26);
        due("blessed", digits(x.served(1, 0), x.served(2, 0), x.served(3, 0)), 1);
        due("two get one", x.best(0), 2);
        due("in all orders", x.best(1), 24);
        // The 26th is the day's 8th: the third one's unless he comes first, then his who comes next.
        due("the third's chances", x.chances(3, 1), 16);
        due("the second's chances", x.chances(2, 1), 4);
        due("the first's chances", x.chances(1, 1), 4);
        due("fairest", x.fairest(0), 8);
        x.sight(2, 1);
        due("counts by those ahead", x.counts(1, 0), 6);
        // The 39th is the next day's 9th, and never the second one's.
        due("never, two days", x.never(2, 2), 20 * 24);
        x.terms(4, 25);
        due("26 is the first one's", x.chances(2, 1), 8);
        due("never, 26 and 39", x.never(2, 2), 16 * 16);
        due("year", x.year(NONE), 3);
        due("as TOLD", x.bake(0), 4);
        due("had", digits(x.of(0, 3), x.of(1, 3), x.of(2, 3), x.of(3, 3)), 3100);
        due("baked", x.count(14) * 100 + x.count(15), 4037);
        x.put(2, 2, 0);
        x.terms(3, 0);
        due("one goes over to OVEN 0", x.served(2, 1), 41);
        due("he gets none, nor one of two at OVEN 1", x.best(0), 2);
    }

    private static void toldIfAnOrderOrNot() {
        says("As TOLD: by number, if that is an ORDER or not");
        ThirteenthLoaf x = with(5, 8);
        rule(x, "waits if who=0");
        due("served", x.served(1, 0), 1);
        due("the only order is another", x.best(2), 1);
        x.sight(1, 1);
        due("sights", x.counts(0, 0), 0);
        due("baked", x.bake(0), 1);
        due("the second had it", x.of(1, 3), 1);
    }

    private static void bestAtLeastOne() {
        says("an ORDER by which most CUSTOMERS get a BLESSED loaf at least");
        ThirteenthLoaf x = with(4, 1);
        x.terms(0, 2);
        // 2 and 4 both are his who wants four, by either ORDER.
        due("two loaves count once", x.best(0), 1);
        due("in both orders", x.best(1), 2);
        ThirteenthLoaf none = with(1, 1);
        due("none gets one", none.best(0), 0);
        due("none in both orders", none.best(1), 2);
        ThirteenthLoaf all = with(13, 13, 13, 13, 13, 13, 13, 13);
        due("all get one", all.best(0), 8);
        due("all in all orders", all.best(1), 40320);
        ThirteenthLoaf most = with(40);
        most.terms(0, 2);
        due("one gets 20", most.best(0), 1);
    }

    private static void bestIsTheFirst() {
        says("BEST: .. the first as a row of CUSTOMERS");
        ThirteenthLoaf x = with(1, 3);
        x.terms(0, 2);
        // By 0, 1: loaf 1, and 2 to 4. By 1, 0: 1 to 3, and 4.
        due("two get one", x.best(0), 2);
        due("in one order", x.best(1), 1);
        due("that one", digits(x.best(2), x.best(3)), 10);
        ThirteenthLoaf y = with(5, 8, 1);
        rule(y, "waits if who=0 and other=2");
        due("one gets one", y.best(0), 1);
        due("in all orders", y.best(1), 3);
        due("the first of them", digits(y.best(2), y.best(3), y.best(4)), 120);
    }

    private static void owedBelow0() {
        says("OWED is a CUSTOMER: BOUGHT less DOZEN times HAD");
        ThirteenthLoaf x = with(1);
        due("at first", x.owed(0), 0);
        x.put(0, 4, 999999);
        due("at most", x.owed(0), 999999);
        x.put(0, 3, 9999);
        due("with the most had", x.owed(0), 999999 - 13 * 9999);
        x.put(0, 4, 0);
        x.terms(0, 20);
        due("at least", x.owed(0), -199980);
        x.terms(0, 2);
        due("by 2", x.owed(0), -19998);
        x.terms(0, 13);
        x.put(0, 3, 1);
        x.put(0, 4, 12);
        due("one too few", x.owed(0), -1);
        x.terms(1, 1);
        due("LEAP does not matter", x.owed(0), -1);
    }

    private static void fairestIsTheGreatestOfAll() {
        says("the greatest OWED of all, behind that DAY");
        ThirteenthLoaf x = with(5, 8);
        // 0, 1: 5 and 8 less 13. 1, 0: 8 and 5 less 13.
        due("fairest", x.fairest(0), 5);
        due("its row", digits(x.fairest(1), x.fairest(2)), 1);
        ThirteenthLoaf y = with(5, 8, 0);
        y.put(0, 4, 7);
        y.put(2, 4, 500);
        due("one alone", y.fairest(0), 500);
        due("the first of all as fair", digits(y.fairest(1), y.fairest(2), y.fairest(3)), 12);
    }

    private static void fairestEitherWay() {
        says("either way (as if above 0) is least");
        ThirteenthLoaf x = with(5, 8);
        x.put(0, 3, 1);
        // 0, 1: -13 and 5 is -8, 8 less 13 is -5. 1, 0: 8, and -8 less 13.
        due("fairest", x.fairest(0), 8);
        due("its row", digits(x.fairest(1), x.fairest(2)), 1);
        ThirteenthLoaf y = with(0);
        due("nothing", y.fairest(0), 0);
        y.put(0, 3, 1);
        due("one had", y.fairest(0), 13);
        y.put(0, 4, 26);
        due("two dozens bought", y.fairest(0), 13);
    }

    private static void fairestAtTheMost() {
        says("the greatest OWED of all .. either way");
        ThirteenthLoaf x = with(40);
        x.put(0, 4, 999999);
        due("the most bought", x.fairest(0), 999999 + 40 - 3 * 13);
        ThirteenthLoaf y = with(40);
        y.terms(0, 20);
        y.put(0, 3, 9999);
        due("the most had", y.fairest(0), 20 * 9999 - 40 + 2 * 20);
        ThirteenthLoaf z = with(40);
        z.terms(0, 2);
        z.put(0, 4, 7);
        due("the most got", z.fairest(0), 7);
    }

    private static void fairestIsTheFirst() {
        says("FAIREST: .. is least; the first");
        ThirteenthLoaf x = with(13, 13, 13);
        due("all as fair", x.fairest(0), 0);
        due("the first", digits(x.fairest(1), x.fairest(2), x.fairest(3)), 12);
        rule(x, "waits if who=0 and other=2");
        due("the first that is an ORDER", digits(x.fairest(1), x.fairest(2), x.fairest(3)), 120);
        ThirteenthLoaf y = with(5, 8);
        y.put(0, 4, 7);
        due("another than as TOLD", digits(y.fairest(1), y.fairest(2)), 10);
    }

    private static void yearOfOneDay() {
        says("A YEAR: the fewest DAYS, 1 .. 30");
        ThirteenthLoaf x = with(13, 13);
        due("one day", x.year(NONE), 1);
        due("all had one", x.year(0), 3);
        due("no second day", x.year(1), NONE);
        ThirteenthLoaf y = with(13, 12, 1);
        due("two days", y.year(NONE), 2);
    }

    private static void yearOf30Days() {
        says("A YEAR: the fewest DAYS, 1 .. 30");
        ThirteenthLoaf x = with(1);
        due("13 days", x.year(NONE), 13);
        x.terms(0, 20);
        x.terms(1, 1);
        due("21 days", x.year(NONE), 21);
        rule(x, "wants day/28*21");
        due("29 days", x.year(NONE), 29);
        rule(x, "wants day/29*21");
        due("30 days", x.year(NONE), 30);
        due("the 29th", x.year(28), 0);
        due("the 30th", x.year(29), 1);
        due("no 31st", x.year(30), NONE);
        rule(x, "wants day/30*21");
        due("31 days", x.year(NONE), NONE);
        due("no first of them", x.year(0), NONE);
        due("no 31st of them", x.year(30), NONE);
    }

    private static void yearOfManyWays() {
        says("each by an ORDER of its own: however many ways there are");
        ThirteenthLoaf x = with(5, 8);
        x.customer(5, 0, 1);
        x.customer(8, 0, 1);
        x.customer(0, 0, 0);
        // Four had one behind the first DAY; then two of them on each, by four ways a DAY.
        rule(x, "wants 13 if day=0 and who<4; wants 13 if who=4 and day=20");
        due("21 days", x.year(NONE), 21);
        due("the first", x.year(0), 15);
        due("the 20th", x.year(19), 15);
        due("the 21st", x.year(20), 31);
    }

    private static void yearWithHadAsItIs() {
        says("(HAD in the law as it is now; DAY and days on)");
        ThirteenthLoaf x = with(7, 6);
        rule(x, "wants 0 if had>0");
        // If he who had one wanted none then, the other one's dozen would take longer.
        due("nobody had one", x.year(NONE), 2);
        x.put(0, 3, 1);
        due("he who had one wants none at all", x.year(NONE), NONE);
    }

    private static void yearWithDaysOn() {
        says("(HAD in the law as it is now; DAY and days on)");
        ThirteenthLoaf x = with(0);
        rule(x, "wants 13 if day=5");
        due("from 0", x.year(NONE), 6);
        x.terms(2, 5);
        due("from 5", x.year(NONE), 1);
        x.terms(2, 6);
        due("from 6", x.year(NONE), NONE);
        x.terms(2, 4);
        due("from 4", x.year(NONE), 2);
        due("nothing stays of it", digits(x.count(13), x.count(14), x.of(0, 3), x.of(0, 4)), 4000);
        ThirteenthLoaf y = new ThirteenthLoaf();
        y.customer(1, 0, 0);
        y.customer(2, 0, 1);
        y.terms(3, 5);
        y.terms(4, 12);
        // Loaf 13 of OVEN 0 is of the 8th DAY, that of OVEN 1 of the first.
        due("BAKED goes on, each by itself", y.year(NONE), 8);
        due("the first day", y.year(0), 2);
        due("the 7th day", y.year(6), 2);
        due("the 8th day", y.year(7), 3);
        y.terms(3, 12);
        due("both on the first", y.year(NONE), 1);
    }

    private static void yearBeyondTheMost() {
        says("from DAY on: also from the last DAY and the most BAKED");
        ThirteenthLoaf x = with(13);
        x.terms(2, 9999);
        x.terms(3, 999999);
        x.put(0, 3, 9999);
        x.put(0, 4, 999999);
        due("a day behind the most", x.year(NONE), 1);
        x.put(0, 0, 1);
        due("13 days behind the most", x.year(NONE), 13);
        rule(x, "wants 0; wants 13 if day/10=1000");
        due("the DAY behind the last is 10,000", x.year(NONE), 2);
    }

    private static void yearByOrders() {
        says("each by an ORDER of its own, in which each CUSTOMER gets a BLESSED loaf");
        ThirteenthLoaf x = with(13, 13);
        rule(x, "waits");
        due("no order at all", x.year(NONE), NONE);
        rule(x, "waits if day=1");
        due("an order on the first day", x.year(NONE), 1);
        rule(x, "waits if day=1; wants day/2*13");
        due("no order on the second of three", x.year(NONE), NONE);
        rule(x, "waits if day=3; wants day/2*13");
        due("no order on the fourth", x.year(NONE), 3);
        ThirteenthLoaf y = with(5, 8);
        rule(y, "waits if who=0");
        due("he is always the last and the only one", y.year(NONE), NONE);
        rule(y, "waits if who=0 and day<4");
        due("until the fifth day", y.year(NONE), 5);
        ThirteenthLoaf z = with(13, 0);
        due("one wants none", z.year(NONE), NONE);
    }

    private static void wayByTheLowestSet() {
        says("day by day the lowest set of CUSTOMERS (as bits) that had one by then, from which it is still"
                + " done in as few");
        ThirteenthLoaf x = with(5, 8);
        due("two days", x.year(NONE), 2);
        due("the lower one first", x.year(0), 1);
        rule(x, "waits if day=1 and who=0");
        // The second DAY can only bless 0, who is the last then.
        due("two days again", x.year(NONE), 2);
        due("the higher one first", x.year(0), 2);
        due("both then", x.year(1), 3);
        ThirteenthLoaf y = with(13, 13, 13, 13, 13, 13, 13);
        y.customer(7, 0, 1);
        due("all but the highest, then all", y.year(NONE), 2);
        due("seven as bits", y.year(0), 127);
        due("all eight as bits", y.year(1), 255);
        ThirteenthLoaf z = with(13, 13, 13, 13, 13, 13);
        z.customer(5, 0, 1);
        z.customer(8, 0, 1);
        due("one of the highest two", z.year(0), 127);
        rule(z, "waits if day=1 and who=6");
        due("two days still", z.year(NONE), 2);
        due("the other one of them", z.year(0), 191);
        rule(z, "waits if day=1 and who=7");
        due("the one again", z.year(0), 127);
        ThirteenthLoaf shorter = with(5, 6);
        due("three days", shorter.year(NONE), 3);
        shorter.put(1, 0, 8);
        due("two days then", shorter.year(NONE), 2);
        due("all behind the last of them", shorter.year(1), 3);
    }

    private static void wayThatCanStillBeDone() {
        says("the lowest set of CUSTOMERS .. that had one by then, from which it is still done in as few");
        ThirteenthLoaf x = with(0, 0, 0);
        x.terms(0, 3);
        rule(x, "wants 3 if who=2 and day=0; wants 1 if day>0");
        // Then one a DAY, whoever is the last: 2 again would be lower, but too late for both others.
        due("three days", x.year(NONE), 3);
        due("2 alone", x.year(0), 4);
        due("0 too", x.year(1), 5);
        due("all", x.year(2), 7);
        rule(x, "wants 3 if who=0 or day>0");
        // The second DAY has no ORDER in which 0 gets none, which does no harm.
        due("two days", x.year(NONE), 2);
        due("0 alone", x.year(0), 1);
        due("all at once then", x.year(1), 7);
        x.terms(0, 2);
        rule(x, "wants 1 if day=0 and not who=1; wants 2 if day=1 and who<2");
        // 0 could have the first one, but the second DAY can't make up for 2.
        due("two days again", x.year(NONE), 2);
        due("2 alone, not 0", x.year(0), 4);
        due("0 and 1 then", x.year(1), 7);
        x.terms(0, 3);
        rule(x, "wants 0; wants 3 if day=0 and who<2; wants 3 if day=2 and who>0");
        due("nothing on the second day", x.year(NONE), 3);
        due("0 and 1", x.year(0), 3);
        due("still 0 and 1", x.year(1), 3);
        due("1 again, and 2", x.year(2), 7);
    }

    private static void yearOfEightInAnyOrder() {
        says("each by an ORDER of its own: also if it is the only one");
        ThirteenthLoaf x = with(2, 2, 2, 2, 2, 2, 2, 2);
        x.terms(0, 2);
        String[] laws = {"waits if other=7", "waits if other=6", "waits if other=0", "waits if who<other",
            "waits if who>other", "waits if who=7"};
        for (int law = 0; law < 6; law++) {
            rule(x, laws[law]);
            due(laws[law] + ": one day", x.year(NONE), 1);
            due(laws[law] + ": all", x.year(0), 255);
        }
        for (int early = 0; early < 8; early++) {
            ThirteenthLoaf y = with(1, 1, 1, 1, 1, 1, 1, 1);
            y.terms(0, 8);
            y.terms(3, 7);
            // Loaf 8 is the first one's, and loaf 16 the first one's on the next DAY.
            rule(y, "waits if who>" + early + " and other=" + early + " and day=0; waits if who<" + early
                    + " and other=" + early + " and day=0");
            due("eight days, " + early + " first", y.year(NONE), 8);
            due("behind the first", y.year(0), 1 << early);
            due("behind the last", y.year(7), 255);
        }
    }

    private static void chancesOfJustSoMany() {
        says("CHANCES: in how many ORDERS of a DAY a CUSTOMER gets just so many BLESSED loaves");
        ThirteenthLoaf x = with(40, 1);
        x.terms(0, 2);
        due("20 by both", x.chances(0, 20), 2);
        due("19 by none", x.chances(0, 19), 0);
        due("the other one none, by one", x.chances(1, 0), 2);
        x.put(0, 0, 39);
        // 39 first: 2 to 38, then 40. One first: 1, then 2 to 40.
        due("19 by one", x.chances(0, 19), 1);
        due("20 by the other", x.chances(0, 20), 1);
        rule(x, "waits");
        due("without orders", x.chances(0, 19), 0);
        ThirteenthLoaf y = with(0, 1, 1, 1, 1, 1, 1, 1);
        due("none in all orders", y.chances(0, 0), 40320);
        y.terms(0, 7);
        due("one in those where he is the last of seven", y.chances(1, 1), 40320 / 7);
    }

    private static void sightsAreEightAtMost() {
        says("SIGHTS, 8 at most: a CUSTOMER got so many BLESSED loaves (0 .. 20)");
        ThirteenthLoaf x = with(40);
        x.terms(0, 2);
        for (int i = 1; i <= 8; i++) {
            due("sight", x.sight(0, i == 1 ? 0 : 20), i);
        }
        due("the 9th", x.sight(0, 20), -5);
        due("eight", x.count(2), 8);
        due("they can't all be so", x.counts(0, NONE), 0);
        x.forget();
        for (int i = 1; i <= 8; i++) {
            x.sight(0, 20);
        }
        due("they are all so", x.counts(0, NONE), 2);
        x.forget();
        due("-1", x.sight(0, -1), -1);
        due("21", x.sight(0, 21), -1);
        due("the lowest", x.sight(0, LOWEST), -1);
        due("the highest", x.sight(0, HIGHEST), -1);
        due("none came", x.count(2), 0);
    }

    private static void sightsAsTold() {
        says("SIGHTS .. a CUSTOMER got so many BLESSED loaves .., as TOLD");
        ThirteenthLoaf x = with(5, 8);
        x.sight(1, 1);
        // Ahead of him are five: loaves 6 to 13 behind none, 18 to 25 behind 12.
        due("how many", x.counts(0, NONE), 8);
        due("the last", x.counts(0, 7), 7);
        x.put(0, 0, 12);
        due("by what the one ahead wants now", x.counts(0, 0), 0);
        due("12 ahead and 8, the last", x.counts(0, 7), 12);
        rule(x, "waits if who=0");
        due("an ORDER or not", x.counts(0, 7), 12);
    }

    private static void countsLessThanARound() {
        says("less than a ROUND (DOZEN loaves; with LEAP: LEAP times DOZEN and 1)");
        int[][] rounds = {{2, 0, 2}, {13, 0, 13}, {20, 0, 20}, {2, 1, 3}, {13, 1, 14}, {13, 2, 27}, {20, 9, 181}};
        for (int[] r : rounds) {
            ThirteenthLoaf x = dozens(r[0], r[1]);
            String name = "of " + r[0] + ", " + r[1];
            due("how many " + name, x.counts(0, NONE), r[2]);
            due("the first " + name, x.counts(1, 0), 0);
            due("the last " + name, x.counts(1, r[2] - 1), r[2] - 1);
            due("no more " + name, x.counts(1, r[2]), NONE);
            x.customer(1, 0, 0);
            x.sight(0, 1);
            int most = Math.max(1, r[1]);
            due("as many as BLESSED ones " + name, x.counts(0, NONE), most);
            due("the last ahead of one " + name, x.counts(0, most - 1), r[2] - 1);
        }
    }

    private static void countsBySightsOfItsCustomers() {
        says("that could have been BAKED by it .., by which all SIGHTS of its CUSTOMERS are so");
        ThirteenthLoaf x = new ThirteenthLoaf();
        x.customer(1, 0, 0);
        x.customer(1, 0, 1);
        x.sight(0, 1);
        due("the one", x.counts(0, NONE), 1);
        due("12", x.counts(0, 0), 12);
        due("any of the other OVEN", x.counts(1, NONE), 13);
        x.terms(3, 5);
        due("not by what is BAKED", x.counts(0, 0), 12);
        x.sight(1, 0);
        due("none ahead of a BLESSED one", x.counts(1, NONE), 12);
        due("OVEN 0 is as it was", x.counts(0, NONE), 1);
        x.sight(0, 0);
        due("both can't be", x.counts(0, NONE), 0);
        due("no first of none", x.counts(0, 0), NONE);
        x.put(0, 2, 1);
        due("his OVEN is the other one then", x.counts(0, NONE), 13);
        due("and can't be there", x.counts(1, NONE), 0);
        ThirteenthLoaf y = with(0);
        y.sight(0, 0);
        due("who wants none got none", y.counts(0, NONE), 13);
        y.sight(0, 1);
        due("and never one", y.counts(0, NONE), 0);
    }

    private static void claimsAreEightAtMost() {
        says("CLAIMS, 8 at most: a CUSTOMER says that he got so many (0 .. 20)");
        ThirteenthLoaf x = with(40);
        x.terms(0, 2);
        for (int i = 1; i <= 8; i++) {
            due("claim", x.claim(0, i == 8 ? 0 : 20), i);
        }
        due("the 9th", x.claim(0, 20), -5);
        due("eight", x.count(3), 8);
        due("the 8th is false", x.wrong(0), 1);
        x.forget();
        due("-1", x.claim(0, -1), -1);
        due("21", x.claim(0, 21), -1);
        due("the lowest", x.claim(0, LOWEST), -1);
        due("the highest", x.claim(0, HIGHEST), -1);
        due("none came", x.count(3), 0);
    }

    private static void falseWhoeverClaimsFirst() {
        says("FALSE: the fewest that must be, whatever the ORDER of that DAY");
        ThirteenthLoaf x = with(1, 1, 1, 1, 1, 1, 1, 1);
        for (int many = 1; many <= 8; many++) {
            due("claim", x.claim(8 - many, 5), many);
            due("all of them are false", x.wrong(0), many);
            due("in all orders", x.wrong(1), 40320);
        }
    }

    private static void fewestFalse() {
        says("FALSE: the fewest that must be, whatever the ORDER of that DAY; in how many ORDERS just so few"
                + " are; the first");
        ThirteenthLoaf x = with(5, 8, 13);
        due("without claims", x.wrong(0), 0);
        due("by all", x.wrong(1), 6);
        x.claim(0, 1);
        due("none must be", x.wrong(0), 0);
        due("by those in which 1 is ahead", x.wrong(1), 3);
        due("the first of them", digits(x.wrong(2), x.wrong(3), x.wrong(4)), 102);
        x.claim(1, 1);
        due("one of two", x.wrong(0), 1);
        due("by all again", x.wrong(1), 6);
        due("the first of all", digits(x.wrong(2), x.wrong(3), x.wrong(4)), 12);
        x.claim(1, 1);
        due("one of three", x.wrong(0), 1);
        due("by those in which 1 has it", x.wrong(1), 3);
        for (int i = 0; i < 5; i++) {
            x.claim(2, 20);
        }
        due("six of eight", x.wrong(0), 6);
        rule(x, "waits if who=1 and other=0");
        due("whatever the ORDER", x.wrong(1), 3);
        rule(x, "waits if who=0 and other=1");
        due("one more, as 0 is behind 1", x.wrong(0), 7);
        ThirteenthLoaf y = with(1);
        for (int i = 1; i <= 8; i++) {
            y.claim(0, i);
        }
        due("all of eight", y.wrong(0), 8);
    }
}
