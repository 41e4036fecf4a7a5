/** 'Terms' I, sentence by sentence: the last that can be and the first that can't. */
public final class BoundsOfTerms1Test extends Kit {
    private static final int[] MOST_OF = {40, 9, 1, 9999, 999999};
    private static final String[] NAMES_OF = {"BASE", "RANK", "OVEN", "HAD", "BOUGHT"};
    private static final int[] LEAST_TERM = {2, 0, 0, 0, 0};
    private static final int[] MOST_TERM = {20, 9, 9999, 999999, 999999};

    public static void main(String[] args) {
        customersAreEightAtMost();
        aRowFillsUpToEight();
        numbersOfNewCustomers();
        numbersOfCustomersInARow();
        numbersOneByOne();
        numbersThatArePut();
        hadAndBoughtAreNothingAtFirst();
        othersStayAsOneComes();
        hadAndBoughtAreNothingForOneWhoComesAgain();
        termsAtFirst();
        termsWithinBounds();
        termsOneByOne();
        aNumberAheadOfNoSuch();
        aNumberAheadOfNoRoom();
        noSuchAheadOfNoRoom();
        cannotBeAheadOfNoRoom();
        noRoomAheadOfAText();
        noSuchOnBothSides();
        finish();
    }

    private static ThirteenthLoaf eight() {
        return with(1, 2, 3, 4, 5, 6, 7, 8);
    }

    private static void customersAreEightAtMost() {
        says("CUSTOMERS 0 .. 7 (8 at most)");
        ThirteenthLoaf x = new ThirteenthLoaf();
        for (int i = 0; i < 8; i++) {
            due("how many ahead of " + i, x.count(0), i);
            due("customer", x.customer(10 + i, i, i % 2), i);
        }
        due("the 9th", x.customer(0, 0, 0), -5);
        due("eight stay", x.count(0), 8);
        due("the first", x.of(0, 0), 10);
        due("the last", x.of(7, 0), 17);
        due("none is 8", x.of(8, 0), NONE);
        due("none is -1", x.of(-1, 0), NONE);
    }

    private static void aRowFillsUpToEight() {
        says("CUSTOMERS 0 .. 7 (8 at most)");
        ThirteenthLoaf x = with(1, 1, 1, 1, 1, 1, 1);
        bytes(x, 5, 5, 1, 6, 6, 1);
        due("one of two", x.row(), 1);
        due("the other is CRUMBS", x.crumbs(), 1);
        due("eight", x.count(0), 8);
        due("the first of the row came", x.of(7, 0), 5);
    }

    private static void newCustomer(String name, int base, int rank, int oven, boolean canBe) {
        ThirteenthLoaf x = with(1);
        due(name, x.customer(base, rank, oven), canBe ? 1 : -1);
        due(name + ", customers", x.count(0), canBe ? 2 : 1);
        due(name + ", base", x.of(1, 0), canBe ? base : NONE);
        due(name + ", rank", x.of(1, 1), canBe ? rank : NONE);
        due(name + ", oven", x.of(1, 2), canBe ? oven : NONE);
    }

    private static void numbersOfNewCustomers() {
        says("BASE 0 .. 40, RANK 0 .. 9, OVEN 0 or 1");
        newCustomer("all least", 0, 0, 0, true);
        newCustomer("all most", 40, 9, 1, true);
        for (int far : new int[] {LOWEST, -1, HIGHEST}) {
            newCustomer("base " + far, far, 0, 0, false);
            newCustomer("rank " + far, 0, far, 0, false);
            newCustomer("oven " + far, 0, 0, far, false);
        }
        newCustomer("base 41", 41, 0, 0, false);
        newCustomer("rank 10", 0, 10, 0, false);
        newCustomer("oven 2", 0, 0, 2, false);
    }

    private static void numbersOfCustomersInARow() {
        says("BASE 0 .. 40, RANK 0 .. 9, OVEN 0 or 1");
        int[][] threes = {{0, 0, 0}, {40, 9, 1}, {41, 9, 1}, {255, 0, 0}, {40, 10, 1}, {0, 255, 0},
            {40, 9, 2}, {0, 0, 255}, {128, 0, 0}};
        for (int i = 0; i < threes.length; i++) {
            ThirteenthLoaf x = new ThirteenthLoaf();
            bytes(x, threes[i]);
            boolean canBe = i < 2;
            String name = threes[i][0] + " " + threes[i][1] + " " + threes[i][2];
            due("row of " + name, x.row(), canBe ? 1 : 0);
            due("crumbs of " + name, x.crumbs(), canBe ? 0 : 1);
            due("base of " + name, x.of(0, 0), canBe ? threes[i][0] : NONE);
            due("rank of " + name, x.of(0, 1), canBe ? threes[i][1] : NONE);
            due("oven of " + name, x.of(0, 2), canBe ? threes[i][2] : NONE);
        }
    }

    private static void numbersOneByOne() {
        says("BASE 0 .. 40, RANK 0 .. 9, OVEN 0 or 1: each number that a byte can be, and beyond");
        for (int number = -3; number < 260; number++) {
            newCustomer("base " + number, number, 2, 0, number >= 0 && number <= 40);
            newCustomer("rank " + number, 3, number, 0, number >= 0 && number <= 9);
            newCustomer("oven " + number, 3, 2, number, number == 0 || number == 1);
            for (int what = 0; what < 3; what++) {
                ThirteenthLoaf x = with(1);
                int was = x.of(0, what);
                boolean canBe = number >= 0 && number <= MOST_OF[what];
                due(NAMES_OF[what] + " put " + number, x.put(0, what, number), canBe ? was : -1);
                due(NAMES_OF[what] + " behind it", x.of(0, what), canBe ? number : was);
                oneInARow(what, number);
            }
        }
    }

    private static void oneInARow(int what, int number) {
        if (number < 0 || number > 255) {
            return;
        }
        ThirteenthLoaf x = new ThirteenthLoaf();
        int[] three = {3, 2, 1};
        three[what] = number;
        bytes(x, three);
        boolean canBe = number <= MOST_OF[what];
        due(NAMES_OF[what] + " in a row " + number, x.row(), canBe ? 1 : 0);
        due(NAMES_OF[what] + " of him", x.of(0, what), canBe ? number : NONE);
        due(NAMES_OF[what] + " crumbs", x.crumbs(), canBe ? 0 : 1);
    }

    private static void numbersThatArePut() {
        says("BASE 0 .. 40, RANK 0 .. 9, OVEN 0 or 1; HAD 0 .. 9999, BOUGHT 0 .. 999,999");
        for (int what = 0; what < 5; what++) {
            String name = NAMES_OF[what];
            ThirteenthLoaf x = with(0, 0);
            due(name + ", the most", x.put(1, what, MOST_OF[what]), 0);
            due(name + ", one more", x.put(1, what, MOST_OF[what] + 1), -1);
            due(name + ", the highest", x.put(1, what, HIGHEST), -1);
            due(name + " stays", x.of(1, what), MOST_OF[what]);
            due(name + " of the other", x.of(0, what), 0);
            due(name + ", the least", x.put(1, what, 0), MOST_OF[what]);
            due(name + ", one less", x.put(1, what, -1), -1);
            due(name + ", the lowest", x.put(1, what, LOWEST), -1);
            due(name + " is the least", x.of(1, what), 0);
        }
    }

    private static void hadAndBoughtAreNothingAtFirst() {
        says("HAD 0 .. 9999 (blessed ones so far; 0 at first), BOUGHT 0 .. 999,999 (loaves so far; 0)");
        ThirteenthLoaf x = with(40);
        bytes(x, 40, 9, 1);
        x.row();
        due("had by customer()", x.of(0, 3), 0);
        due("bought by customer()", x.of(0, 4), 0);
        due("had by row()", x.of(1, 3), 0);
        due("bought by row()", x.of(1, 4), 0);
    }

    private static void othersStayAsOneComes() {
        says("HAD .. 0 at first, BOUGHT .. (0): of him who comes, not of the others");
        ThirteenthLoaf x = new ThirteenthLoaf();
        for (int i = 0; i < 6; i++) {
            law(x, "wants 7");
        }
        for (int i = 0; i < 8; i++) {
            x.force(i - 2);
            if (i % 2 == 0) {
                due("comes", x.customer(20 + i, 9 - i, i / 2 % 2), i);
            } else {
                bytes(x, 20 + i, 9 - i, i / 2 % 2);
                due("comes in a row", x.row(), 1);
            }
            due("had at first", x.of(i, 3), 0);
            due("bought at first", x.of(i, 4), 0);
            x.put(i, 3, 30 + i);
            x.put(i, 4, 40 + i);
            for (int c = 0; c <= i; c++) {
                int[] traits = {20 + c, 9 - c, c / 2 % 2, 30 + c, 40 + c};
                for (int what = 0; what < 5; what++) {
                    due(NAMES_OF[what] + " of " + c + " behind " + i, x.of(c, what), traits[what]);
                }
            }
        }
    }

    private static void hadAndBoughtAreNothingForOneWhoComesAgain() {
        says("HAD .. 0 at first, BOUGHT .. (0): also where another one stood ahead of BACK");
        ThirteenthLoaf x = with(1);
        x.image(0);
        x.customer(2, 2, 0);
        x.put(1, 3, 77);
        x.put(1, 4, 777);
        x.back(0);
        due("nobody there", x.of(1, 3), NONE);
        x.customer(3, 3, 1);
        due("had", x.of(1, 3), 0);
        due("bought", x.of(1, 4), 0);
        due("owed", x.owed(1), 0);
    }

    private static void termsAtFirst() {
        says("0 DOZEN (13 at first), 1 LEAP (0), 2 DAY (0), 3, 4 BAKED (0)");
        int[] first = {13, 0, 0, 0, 0};
        for (int what = 0; what < 5; what++) {
            ThirteenthLoaf x = new ThirteenthLoaf();
            due("count of term " + what, x.count(11 + what), first[what]);
            due("what term " + what + " was", x.terms(what, 5), first[what]);
            due("what it was then", x.terms(what, 6), 5);
        }
    }

    private static void termsWithinBounds() {
        says("0 DOZEN 2 .. 20, 1 LEAP 0 .. 9, 2 DAY 0 .. 9999, 3, 4 BAKED 0 .. 999,999");
        for (int what = 0; what < 5; what++) {
            ThirteenthLoaf x = new ThirteenthLoaf();
            String name = "term " + what;
            x.terms(what, 7);
            due(name + ", the most", x.terms(what, MOST_TERM[what]), 7);
            due(name + ", one more", x.terms(what, MOST_TERM[what] + 1), -1);
            due(name + ", the highest", x.terms(what, HIGHEST), -1);
            due(name + " stays", x.count(11 + what), MOST_TERM[what]);
            due(name + ", the least", x.terms(what, LEAST_TERM[what]), MOST_TERM[what]);
            due(name + ", one less", x.terms(what, LEAST_TERM[what] - 1), -1);
            due(name + ", the lowest", x.terms(what, LOWEST), -1);
            due(name + " is the least", x.count(11 + what), LEAST_TERM[what]);
            for (int other = 0; other < 5; other++) {
                if (other != what) {
                    due(name + " is no other", x.count(11 + other), other == 0 ? 13 : 0);
                }
            }
        }
    }

    private static void termsOneByOne() {
        says("TERMS: 0 DOZEN 2 .. 20, 1 LEAP 0 .. 9, 2 DAY, 3, 4 BAKED: each number around the bounds");
        for (int what = -3; what < 9; what++) {
            for (int number = -3; number < 30; number++) {
                ThirteenthLoaf x = new ThirteenthLoaf();
                boolean canBe = what >= 0 && what < 5 && number >= LEAST_TERM[what] && number <= MOST_TERM[what];
                int was = x.count(11 + Math.max(0, Math.min(4, what)));
                due("term " + what + " is " + number, x.terms(what, number), canBe ? was : -1);
                due("term " + what + " refused", x.count(5), canBe ? 0 : 1);
                if (canBe) {
                    due("term " + what + " behind it", x.count(11 + what), number);
                }
            }
        }
    }

    private static void aNumberAheadOfNoSuch() {
        says("The first of these in that order: -1 ahead of -2");
        ThirteenthLoaf x = with(1);
        due("put, no such what", x.put(1, 5, 0), -1);
        due("put, no such value", x.put(1, 0, 41), -1);
        due("put, no one alone", x.put(1, 0, 40), -2);
        due("sight", x.sight(1, 21), -1);
        due("sight, no one alone", x.sight(1, 20), -2);
        due("claim", x.claim(1, -1), -1);
        due("claim, no one alone", x.claim(1, 0), -2);
        due("back", x.back(2), -1);
        due("back, none alone", x.back(1), -2);
        due("by -1", x.count(5), 5);
        due("by -2", x.count(6), 4);
    }

    private static void aNumberAheadOfNoRoom() {
        says("The first of these in that order: -1 ahead of -3 and -5");
        ThirteenthLoaf x = eight();
        due("customer", x.customer(0, 0, 2), -1);
        due("customer, no room alone", x.customer(0, 0, 1), -5);
        for (int i = 0; i < 8; i++) {
            x.sight(0, 0);
            x.claim(0, 0);
        }
        due("sight", x.sight(0, 21), -1);
        due("sight, no room alone", x.sight(0, 20), -5);
        due("claim", x.claim(0, 21), -1);
        due("claim, no room alone", x.claim(0, 20), -5);
        rule(x, "waits");
        x.terms(2, 9999);
        due("bake", x.bake(3), -1);
        due("queues, seed", x.queues(-1, 1), -1);
        due("queues, days", x.queues(0, 21), -1);
        due("queues, no room alone", x.queues(0, 20), -5);
        due("by -1", x.count(5), 6);
        due("by -3", x.count(7), 0);
        due("by -5", x.count(8), 4);
    }

    private static void noSuchAheadOfNoRoom() {
        says("The first of these in that order: -2 ahead of -5");
        ThirteenthLoaf x = with(1);
        for (int i = 0; i < 8; i++) {
            x.sight(0, 0);
            x.claim(0, 0);
        }
        due("sight", x.sight(1, 0), -2);
        due("claim", x.claim(1, 0), -2);
        due("by -2", x.count(6), 2);
        due("by -5", x.count(8), 0);
    }

    private static void cannotBeAheadOfNoRoom() {
        says("The first of these in that order: -3 ahead of -5");
        ThirteenthLoaf x = with(1, 1);
        rule(x, "waits");
        x.terms(2, 9999);
        due("bake by BEST", x.bake(1), -3);
        due("bake by FAIREST", x.bake(2), -3);
        due("bake as TOLD has no ORDER to miss", x.bake(0), -5);
        due("by -3", x.count(7), 2);
        due("by -5", x.count(8), 1);
    }

    private static void noRoomAheadOfAText() {
        says("The first of these in that order: -5 ahead of -6");
        ThirteenthLoaf x = new ThirteenthLoaf();
        for (int i = 0; i < 6; i++) {
            law(x, "waits");
        }
        due("a TEXT that can't be", law(x, "?"), -5);
        due("an empty TAPE", x.law(), -5);
        due("by -5", x.count(8), 2);
        due("by -6", x.count(9), 0);
    }

    private static void noSuchOnBothSides() {
        says("-2 there is no such CUSTOMER, LAW, SIGHT, CLAIM, IMAGE");
        ThirteenthLoaf x = eight();
        for (int nobody : new int[] {LOWEST, -1, 8, HIGHEST}) {
            due("put " + nobody, x.put(nobody, 0, 0), -2);
            due("sight " + nobody, x.sight(nobody, 0), -2);
            due("claim " + nobody, x.claim(nobody, 0), -2);
        }
        due("put 7", x.put(7, 0, 0), 8);
        due("sight 7", x.sight(7, 0), 1);
        due("claim 7", x.claim(7, 0), 1);
        for (int none : new int[] {LOWEST, -2, 0, HIGHEST}) {
            due("force " + none, x.force(none), -2);
        }
        due("back", x.back(0), -2);
        due("by -2", x.count(6), 17);
    }
}
