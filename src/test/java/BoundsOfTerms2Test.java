/** 'Terms' II, sentence by sentence: LAWS, their TEXTS, what is BROKEN, and what they tell. */
public final class BoundsOfTerms2Test extends Kit {
    private static final String MOST = "1000*1000*1000";
    private static final String TWELVE = "waits" + ";waits".repeat(11);

    public static void main(String[] args) {
        lawsAreSixAtMost();
        theTapeHas400BytesAtMost();
        lawsOf400Bytes();
        lawsOneBehindTheOther();
        theSixthOnPaper();
        noneIsInForceAtFirst();
        rowsOfLettersAreLongest();
        wordsAreWhole();
        rowsOfDigitsAreLongest();
        otherBytesAreSingle();
        bytesBesideLettersAndDigits();
        anyBlanksBetween();
        blanksAre32Alone();
        clausesAreTwelveAtMost();
        aClauseBegins();
        aClauseEnds();
        testsAndTheirParts();
        sumsAndTheirParts();
        numbersGoTo1000();
        wordsBehindNumbers();
        partsAreFiftyAtMost();
        partsOfEachLaw();
        bracketsAreEightAtMost();
        bracketsBehindEachSign();
        bracketsInEachClause();
        theEndsFault();
        faultsBehindEachSign();
        wordsThatAreNoParts();
        othersWhereWaitsIsAsked();
        othersElse();
        wordsOfEachCustomer();
        brokenBeyondTheMost();
        brokenBetween();
        dividedBy0();
        cutTowards0();
        aTestIsBroken();
        brokenAheadOfIt();
        aClauseHolds();
        comparisonsOfEachPair();
        comparisonsWithinTests();
        testsOfFour();
        testsFarBehind();
        whatStandsBehindOr();
        whatStandsBehindAnd();
        wantsFrom0To40();
        theLastThatHolds();
        baseWithout();
        waitsIfOneHolds();
        notServedAhead();
        finish();
    }

    private static void lawsAreSixAtMost() {
        says("LAWS are TEXTS, 6 at most");
        ThirteenthLoaf x = with(20);
        for (int i = 0; i < 6; i++) {
            due("laws ahead", x.count(1), i);
            due("law", law(x, "wants 3" + i), i);
        }
        due("the 7th", law(x, "wants 9"), -5);
        due("six stay", x.count(1), 6);
        for (int i = 0; i < 6; i++) {
            x.force(i);
            due("by law " + i, x.of(0, 5), 30 + i);
        }
    }

    private static void lawsOf400Bytes() {
        says("on a TAPE of at most 400 bytes: what stands at the very end counts as what stands ahead");
        String[] ends = {"wants 5 if 1=2 or 1=2 or base=6", "wants 5 if 1=1 and 1=1 and base=6",
            "wants 5 if not not not base=7", "wants 2+2-2+had", "wants 2*base/2-1", "wants 5 if (1=2 or (base=6))"};
        for (String end : ends) {
            dueWants(" ".repeat(400 - end.length()) + end, 5);
            dueWants("wants 7;" + " ".repeat(392 - end.length()) + end, 5);
            dueWants(end + " ".repeat(400 - end.length()), 5);
        }
        dueFault(" ".repeat(394) + "bases ", 394);
        dueFault(" ".repeat(394) + "wants ", 400);
    }

    private static void lawsOneBehindTheOther() {
        says("LAWS are TEXTS: nothing of an earlier one stays");
        String[] ahead = {"wants 1/0-1/0 if 1/0=1/0", "wants 1+2+3+4+5+6+7+8+9", "waits if not not not day=1/0",
            "wants day if 1000=1000 or 1000=999"};
        for (String first : ahead) {
            for (String then : new String[] {"wants 9 if not 1=2", "wants 9 if not not 1=1 and not 1=2",
                "wants 9 if 1=2 or 1000=1000", "wants 9"}) {
                ThirteenthLoaf x = with(6);
                due("the first", law(x, first), 0);
                due("the second", law(x, then), 1);
                x.force(1);
                due("'" + then + "' behind '" + first + "'", x.of(0, 5), 9);
                // Nine loaves a DAY: the 13th is of the second.
                due("the first day on paper", x.never(0, 1), 1);
                due("the second day on paper", x.never(0, 2), 0);
            }
        }
    }

    private static void theSixthOnPaper() {
        says("LAWS are TEXTS, 6 at most: the last of them, too, is asked on the days to come");
        ThirteenthLoaf x = with(1);
        for (int i = 0; i < 6; i++) {
            law(x, i < 5 ? "wants 0" : "wants 13");
        }
        x.force(5);
        due("year", x.year(NONE), 1);
        due("never", x.never(0, 1), 0);
        due("queues", x.queues(0, 3), 3);
        x.force(4);
        due("year by the fifth", x.year(NONE), NONE);
        due("never by the fifth", x.never(0, 1), 1);
        due("queues by the fifth", x.queues(0, 3), 0);
    }

    private static void theTapeHas400BytesAtMost() {
        says("on a TAPE of at most 400 bytes");
        dueFault("wants 1" + " ".repeat(393), NONE);
        dueFault("wants" + " ".repeat(394) + "1", NONE);
        dueFault("wants 1+" + " ".repeat(392), 400);
        dueFault("wants 1" + " ".repeat(392) + "+", 400);
        dueFault("wants 1" + " ".repeat(392) + "1", 399);
        ThirteenthLoaf x = with(20);
        due("a number of 394 digits", rule(x, "wants " + "0".repeat(392) + "17"), 0);
        due("what it tells", x.of(0, 5), 17);
    }

    private static void noneIsInForceAtFirst() {
        says("one is in FORCE (NONE at first: no CLAUSE)");
        ThirteenthLoaf x = with(20, 21);
        due("in force", x.count(10), NONE);
        law(x, "wants 3; waits");
        due("a law is not in force by itself", x.count(10), NONE);
        due("wants BASE", x.of(0, 5), 20);
        due("waits for nobody", x.waits(0, 1), 0);
        due("orders", x.orders(), 2);
    }

    private static void rowsOfLettersAreLongest() {
        says("TOKENS: longest rows of letters a .. z");
        dueFault("waitsif 1<2", 0);
        dueFault("wantsbase", 0);
        dueFault("wantss 1", 0);
        dueFault("want 1", 0);
        dueFault("w", 0);
        dueFault("wa its", 0);
        dueFault("wants basebase", 6);
        dueFault("wants bas", 6);
        dueFault("wants whom", 6);
        dueFault("waits if 1=1 nota", 13);
        dueFault("waits if notday=1", 9);
        dueFault("waits if 1<2or 2<3and 3<4", NONE);
        dueFault("waits if 1<2 orday<3", 13);
        dueFault("waits if 1<2 andday<3", 13);
        dueFault("waitsa", 0);
        dueFault("waitsz", 0);
        dueFault("zwaits", 0);
        dueFault("wants dayz", 6);
        dueFault("wants a", 6);
        dueFault("wants z", 6);
        dueFault("wants if", 6);
        dueFault("wants or", 6);
        dueFault("wants wants", 6);
    }

    /** Each word with one letter wrong, one too few and one too many. */
    private static void wordsAreWhole() {
        says("\"wants\", \"waits\", \"if\", \"or\", \"and\", \"not\", \"who\" .. \"theirs\"");
        String[] texts = {"wants| 1", "waits|", "waits |if| 1<2", "waits if 1<2 |or| 1<2",
            "waits if 1<2 |and| 1<2", "waits if |not| 1<2", "wants |who|", "wants |base|", "wants |rank|",
            "wants |oven|", "wants |had|", "wants |day|", "wants |other|", "wants |theirs|"};
        for (String text : texts) {
            String[] cut = text.startsWith("wants|") || text.startsWith("waits|")
                    ? ("|" + text + " ").split("\\|") : (text + " ").split("\\|");
            String word = cut[1];
            dueFault(cut[0] + word + cut[2], NONE);
            int place = cut[0].length();
            for (int i = 0; i < word.length(); i++) {
                dueFault(cut[0] + word.substring(0, i) + "x" + word.substring(i + 1) + cut[2], place);
                dueFault(cut[0] + word.substring(0, i) + word.substring(i + 1) + cut[2], place);
            }
            dueFault(cut[0] + word + "s" + cut[2], place);
            dueFault(cut[0] + word.toUpperCase() + cut[2], place);
        }
    }

    private static void rowsOfDigitsAreLongest() {
        says("TOKENS: longest rows .. of digits");
        dueFault("wants 1 0", 8);
        dueFault("wants 10", NONE);
        dueFault("wants5", NONE);
        dueFault("5wants", 0);
        dueFault("wants5if1<2;waits", NONE);
        dueFault("wants base1", 10);
        dueFault("wants 1base", 7);
        dueWants("wants 1+09", 10);
        dueFault("wants 0123456789/1000", 6);
    }

    private static void otherBytesAreSingle() {
        says("TOKENS: .. single other bytes");
        dueFault("waits if 1<=2", 11);
        dueFault("waits if 1==2", 11);
        dueFault("waits if 1<>2", 11);
        dueFault("wants 1++1", 8);
        dueFault("wants 1--1", 8);
        dueFault("wants 1**1", 8);
        dueFault("waits;;waits", 6);
        dueFault("wants [[1]]", NONE);
        dueFault("waits if((1<2))", NONE);
    }

    private static void bytesBesideLettersAndDigits() {
        says("letters a .. z, of digits, single other bytes");
        for (int beside : new int[] {0, 31, 33, 47, 58, 64, 'A', 'Z', 96, 123, 127, 128, 160, 255}) {
            dueFault("waits" + (char) beside, 5);
            dueFault((char) beside + "waits", 0);
            dueFault("wants " + (char) beside, 6);
        }
        dueFault("wants 1:", 7);
        dueFault("wants 0", NONE);
        dueFault("wants 9", NONE);
    }

    private static void anyBlanksBetween() {
        says("any blanks (32) between");
        dueFault("  waits  if  (  1  <  2  )  ;  wants  [  1  ]  *  2  ", NONE);
        dueFault("waits if(1<2);wants[1]*2", NONE);
        dueFault("wants[base]", NONE);
        dueFault("   waits x", 9);
    }

    private static void blanksAre32Alone() {
        says("any blanks (32) between");
        for (int other : new int[] {0, 9, 10, 13, 31, 33, 160}) {
            dueFault("waits" + (char) other + "if 1<2", 5);
        }
    }

    private static void clausesAreTwelveAtMost() {
        says("CLAUSE {\";\" CLAUSE}, 12 at most (FAULT at the 13th's first TOKEN)");
        dueFault(TWELVE, NONE);
        dueFault(TWELVE + ";waits", 72);
        dueFault(TWELVE + "  ;  wants 1", 76);
        dueFault(TWELVE + ";", 72);
        dueFault(TWELVE + ";  ", 74);
        dueFault(TWELVE + "; ?", 73);
        dueFault(TWELVE + " waits", 72);
        ThirteenthLoaf x = with(20);
        due("twelve", rule(x, "waits" + ";waits".repeat(10) + ";wants 7"), 0);
        due("by the 12th", x.of(0, 5), 7);
    }

    private static void aClauseBegins() {
        says("CLAUSE: (\"wants\" SUM | \"waits\")");
        dueFault("", 0);
        dueFault("if 1<2", 0);
        dueFault("1", 0);
        dueFault("; waits", 0);
        dueFault("waits;", 6);
        dueFault("waits; if", 7);
        dueFault("wants", 5);
        dueFault("wants;", 5);
        dueFault("wants if 1<2", 6);
        dueFault("waits 1", 6);
        dueFault("wants 1<2", 7);
        dueFault("wants (1)", 6);
    }

    private static void aClauseEnds() {
        says("[\"if\" TEST]");
        dueFault("wants 1", NONE);
        dueFault("wants 1 if 1<2", NONE);
        dueFault("waits if 1<2 if 1<2", 13);
        dueFault("waits if", 8);
        dueFault("waits if;waits", 8);
        dueFault("waits if 1<2 waits", 13);
        dueFault("waits if 1<2)", 12);
        dueFault("wants 1]", 7);
    }

    private static void testsAndTheirParts() {
        says("PLAIN: \"not\" PLAIN | \"(\" TEST \")\" | SUM (\"<\" | \">\" | \"=\") SUM");
        dueFault("waits if 1", 10);
        dueFault("waits if 1<", 11);
        dueFault("waits if <1", 9);
        dueFault("waits if 1+2", 12);
        dueFault("waits if 1<2<3", 12);
        dueFault("waits if 1!2", 10);
        dueFault("waits if ()", 10);
        dueFault("waits if (1)", 11);
        dueFault("waits if (1<2", 13);
        dueFault("waits if (1<2]", 13);
        dueFault("waits if (1<2)<3", 14);
        dueFault("waits if [1<2]", 11);
        dueFault("waits if [1]<[2]", NONE);
        dueFault("waits if not", 12);
        dueFault("waits if not 1", 14);
        dueFault("waits if 1 not <2", 11);
        dueFault("waits if " + "not ".repeat(96) + "1<2", NONE);
        dueFault("waits if 1<2 or", 15);
        dueFault("waits if 1<2 and", 16);
        dueFault("waits if or 1<2", 9);
        dueFault("waits if 1<2 or or 1<2", 16);
        dueFault("waits if 1<2 and or 1<2", 17);
        dueFault("waits if 1<2 and and 1<2", 17);
        dueFault("waits if 1<2 or and 1<2", 16);
        dueFault("waits if and 1<2", 9);
        dueFault("waits if 1<2 not 1<2", 13);
        dueFault("waits if (", 10);
        dueFault("waits if (not", 13);
        dueFault("waits if (1<", 12);
        dueFault("waits if (1<;waits", 12);
        dueFault("waits if (1<2;waits", 13);
        dueFault("waits if 1<2 and not 1>2 or (1=2 and 1<2)", NONE);
    }

    private static void sumsAndTheirParts() {
        says("SUM: TERM {(\"+\" | \"-\") TERM}. TERM: PART {(\"*\" | \"/\") PART}");
        dueFault("wants +1", 6);
        dueFault("wants -1", 6);
        dueFault("wants *1", 6);
        dueFault("wants 1+", 8);
        dueFault("wants 1-;", 8);
        dueFault("wants 1*", 8);
        dueFault("wants 1/ if", 9);
        dueFault("wants 1*-1", 8);
        dueFault("wants []", 7);
        dueFault("wants [", 7);
        dueFault("wants [;wants 1", 7);
        dueFault("wants [1+", 9);
        dueFault("wants [1+;wants 1", 9);
        dueFault("wants [1;wants 1", 8);
        dueFault("wants [1", 8);
        dueFault("wants [1)", 8);
        dueFault("wants [1]1", 9);
        dueFault("wants 1%1", 7);
        dueFault("wants who+base-rank*oven/had+day-other*theirs", NONE);
    }

    private static void numbersGoTo1000() {
        says("PART: NUMBER (to 1,000)");
        dueFault("wants 0", NONE);
        dueFault("wants 1000", NONE);
        dueFault("wants 1001", 6);
        dueFault("wants 00001000", NONE);
        dueFault("wants 00001001", 6);
        dueFault("wants 10000", 6);
        dueFault("wants 2147483648", 6);
        dueFault("wants 4294967296", 6);
        dueFault("wants 4294968296", 6);
        dueFault("wants 18446744073709551616", 6);
        dueFault("wants 18446744073709552616", 6);
        dueFault("wants 1" + "0".repeat(300), 6);
        dueFault("waits if 1<1001", 11);
        dueFault("waits if 1001<1", 9);
        dueWants("wants 1000-960", 40);
        dueWants("wants 1000-961", 39);
    }

    private static void wordsBehindNumbers() {
        says("PART: NUMBER (to 1,000) | .. | \"who\" | \"base\" | ..: in any row");
        dueWants("wants 1000*base/1000", 6);
        dueWants("wants base*1000/1000", 6);
        dueWants("wants 1000/500*day", 18);
        dueWants("wants 999-999+had", 3);
        dueWaits("waits if 1000*theirs=1000*rank-1000*2", 1);
        dueFault("wants 1000 base", 11);
    }

    private static void partsAreFiftyAtMost() {
        says("50 PARTS that are NUMBERS and words (FAULT at the 51st)");
        String fifty = "wants 1" + "+1".repeat(49);
        dueFault(fifty, NONE);
        dueFault(fifty + "+1", 106);
        dueFault(fifty + "+base", 106);
        dueFault(fifty + "+ [ [ 1", 111);
        dueFault(fifty + ";waits if 1<2", fifty.length() + 10);
        dueFault(fifty + ";wants 1", fifty.length() + 7);
        dueFault(fifty + ";waits", NONE);
        String words = "wants day" + "+day".repeat(48);
        dueFault(words + "+1", NONE);
        dueFault(words + "+1+1", words.length() + 3);
        String halves = "wants 1" + "+1".repeat(24) + " if 1" + "+1".repeat(23);
        dueFault(halves + "<1", NONE);
        dueFault(halves + "<1+1", halves.length() + 3);
        dueFault("wants [[1]]" + "+[1]".repeat(49), NONE);
        dueFault("wants 1" + "*1".repeat(49), NONE);
        dueFault("wants 1" + "*1".repeat(50), 106);
        dueFault("waits if 1<1" + " or 1<1".repeat(24), NONE);
        dueFault("waits if 1<1" + " and 1<1".repeat(24), NONE);
        dueFault("waits if 1<1" + " or 1<1".repeat(25), 12 + 24 * 7 + 4);
        dueWants("wants 1" + "+1".repeat(38) + "+0*1".repeat(5) + "+0", 39);
    }

    private static void partsOfEachLaw() {
        says("50 PARTS .. at most: in each TEXT");
        ThirteenthLoaf x = with(20);
        String most = "+0*1".repeat(24) + "+1";
        due("a FAULT at the 51st", law(x, "wants 0+0" + most), -6);
        for (int i = 0; i < 6; i++) {
            due("law " + i + " of 50", law(x, "wants " + i + most), i);
        }
        for (int i = 0; i < 6; i++) {
            x.force(i);
            due("by law " + i, x.of(0, 5), i + 1);
        }
    }

    private static void bracketsAreEightAtMost() {
        says("8 brackets of both kinds within one another (FAULT at the 9th) at most");
        dueFault("wants " + "[".repeat(8) + "1" + "]".repeat(8), NONE);
        dueFault("wants " + "[".repeat(9) + "1" + "]".repeat(9), 14);
        dueFault("wants " + "[".repeat(50), 14);
        dueFault("waits if " + "(".repeat(8) + "1<2" + ")".repeat(8), NONE);
        dueFault("waits if " + "(".repeat(9) + "1<2" + ")".repeat(9), 17);
        dueFault("waits if " + "(".repeat(300), 17);
        dueFault("waits if " + "not(".repeat(8) + "1<2" + ")".repeat(8), NONE);
        dueFault("waits if " + "not(".repeat(9) + "1<2" + ")".repeat(9), 44);
        dueFault("waits if " + "(".repeat(4) + "[".repeat(4) + "1" + "]".repeat(4) + "<1" + ")".repeat(4), NONE);
        dueFault("waits if " + "(".repeat(4) + "[".repeat(5) + "1" + "]".repeat(5) + "<1" + ")".repeat(4), 17);
        dueFault("waits if (((((((([1]<1))))))))", 17);
        dueFault("waits if (((((((1<[1])))))))", NONE);
        dueFault("wants [1]" + "+[[[[[[[[1]]]]]]]]".repeat(9), NONE);
        dueFault("waits if ((((((((1<1))))))))and((((((((1<1))))))))", NONE);
        dueWants("wants 20+[2-[3-[4-[5-[6-[7-[8-[9-2]]]]]]]]", 18);
        dueWants("wants 5 if " + "not(".repeat(8) + "1<2" + ")".repeat(8), 5);
    }

    private static void bracketsBehindEachSign() {
        says("8 brackets of both kinds within one another: what stands ahead does not matter");
        for (String sign : new String[] {"or ", "and "}) {
            String many = ("1<2 " + sign).repeat(12);
            dueFault("waits if " + many + "((((((((1<2))))))))", NONE);
            dueFault("waits if " + many + "(((((((((1<2)))))))))", 9 + many.length() + 8);
            dueFault("waits if (((((((1<2 " + sign + "(1<2))))))))", NONE);
            dueFault("waits if ((((((((1<2 " + sign + "(1<2)))))))))", 21 + sign.length());
            dueFault("waits if ((((((((1<2 " + sign + "1<2 " + sign + "(1<2)))))))))", 25 + 2 * sign.length());
            dueFault("waits if ((((((((1<2 " + sign + "1<2))))))))" + sign + "((((((((1<2))))))))", NONE);
        }
        for (String sign : new String[] {"+", "-", "*", "/"}) {
            String many = ("1" + sign).repeat(12);
            dueFault("wants " + many + "[[[[[[[[1]]]]]]]]", NONE);
            dueFault("wants " + many + "[[[[[[[[[1]]]]]]]]]", 6 + many.length() + 8);
            dueFault("wants [[[[[[[1" + sign + "[1]]]]]]]]", NONE);
            dueFault("wants [[[[[[[[1" + sign + "[1]]]]]]]]]", 16);
            dueFault("wants [[[[[[[[1" + sign + "1" + sign + "[1]]]]]]]]]", 18);
            dueFault("wants [[[[[[[[1" + sign + "1]]]]]]]]" + sign + "[[[[[[[[1]]]]]]]]", NONE);
        }
        for (String sign : new String[] {"<", ">", "="}) {
            dueFault("waits if ((((((([1]" + sign + "[1])))))))", NONE);
            dueFault("waits if ((((((((1" + sign + "[1]))))))))", 19);
        }
    }

    private static void bracketsInEachClause() {
        says("8 brackets of both kinds within one another: in each CLAUSE anew");
        for (int ahead = 0; ahead < 12; ahead++) {
            String waits = "waits;".repeat(ahead);
            dueFault(waits + "wants [[[[[[[[1]]]]]]]]", NONE);
            dueFault(waits + "wants [[[[[[[[[1]]]]]]]]]", waits.length() + 14);
            dueFault(waits + "waits if ((((((((1<2))))))))", NONE);
            dueFault(waits + "waits if (((((((((1<2)))))))))", waits.length() + 17);
        }
    }

    private static void theEndsFault() {
        says("FAULT: the first TOKEN that can't go on there (the end's: the TEXT's length)");
        dueFault(" ", 1);
        dueFault("      ", 6);
        dueFault("waits;", 6);
        dueFault("waits;   ", 9);
        dueFault("wants   ", 8);
        dueFault("wants 1 +   ", 12);
        dueFault("waits if 1 <   ", 15);
        dueFault("wants ? ?", 6);
        dueFault("wants 1 2 3", 8);
    }

    private static void faultsBehindEachSign() {
        says("FAULT: the first TOKEN that can't go on there");
        for (String sign : new String[] {"or", "and"}) {
            for (int many = 0; many < 4; many++) {
                String test = "waits if 1<2" + (" " + sign + " 1<2").repeat(many);
                dueFault(test, NONE);
                dueFault(test + " ?", test.length() + 1);
                dueFault(test + " " + sign, test.length() + 1 + sign.length());
                dueFault(test + " not", test.length() + 1);
                dueFault(test + " 3", test.length() + 1);
            }
        }
        for (String sign : new String[] {"+", "-", "*", "/"}) {
            for (int many = 0; many < 4; many++) {
                String sum = "wants 1" + (sign + "1").repeat(many);
                dueFault(sum, NONE);
                dueFault(sum + " ?", sum.length() + 1);
                dueFault(sum + sign, sum.length() + 1);
                dueFault(sum + " )", sum.length() + 1);
                dueFault(sum + " 3", sum.length() + 1);
            }
        }
        dueFault("waits if not not not 1<2 ?", 25);
        dueFault("waits if not not not", 20);
    }

    private static void wordsThatAreNoParts() {
        says("PART: NUMBER (to 1,000) | \"[\" SUM \"]\" | \"who\" | .. | \"theirs\": no other word");
        for (String word : new String[] {"wants", "waits", "if", "or", "and", "not", "bases", "x"}) {
            dueFault("wants " + word, 6);
            dueFault("wants 1+" + word, 8);
            dueFault("wants 2*" + word, 8);
            dueFault("wants [" + word + "]", 7);
            dueFault("waits if 1<" + word, 11);
        }
        for (String word : new String[] {"who", "base", "rank", "oven", "had", "day", "other", "theirs"}) {
            dueFault("wants " + word + "+2*" + word + "-[" + word + "] if " + word + "=" + word, NONE);
        }
    }

    private static void othersWhereWaitsIsAsked() {
        says("other, theirs: another CUSTOMER's number and RANK, where \"waits\" is asked");
        dueWaits("waits if other=0", 1);
        dueWaits("waits if theirs=2", 1);
        dueWaits("waits if other=1", 0);
        dueWaits("waits if theirs=4", 0);
        dueWaits("waits if who=1 and base=6 and rank=4 and oven=1 and had=3 and day=9", 1);
        ThirteenthLoaf x = with(1, 1, 1, 1, 1, 1, 1, 1);
        x.put(7, 1, 9);
        rule(x, "waits if other=7 and theirs=9");
        due("0 for 7", x.waits(0, 7), 1);
        due("7 for 0", x.waits(7, 0), 0);
        due("0 for 6", x.waits(0, 6), 0);
    }

    private static void othersElse() {
        says("else -1 both");
        dueWants("wants other+10", 9);
        dueWants("wants theirs+10", 9);
        dueWants("wants 8 if other=0-1", 8);
        dueWants("wants 8 if theirs=0-1", 8);
        dueWants("wants 8 if not other=0-1 or not theirs=0-1", 6);
    }

    private static void wordsOfEachCustomer() {
        says("It is asked of a CUSTOMER on a DAY");
        ThirteenthLoaf x = new ThirteenthLoaf();
        for (int i = 0; i < 8; i++) {
            x.customer(30 - i, 9 - i, i / 3 % 2);
            x.put(i, 3, 20 + i * i % 7);
        }
        x.terms(2, 17);
        String[] laws = {"wants who*4", "wants base", "wants rank+1", "wants oven*5", "wants had", "wants day"};
        for (int law = 0; law < 6; law++) {
            due("law", rule(x, laws[law]), law);
            for (int i = 0; i < 8; i++) {
                int[] words = {i * 4, 30 - i, 10 - i, i / 3 % 2 * 5, 20 + i * i % 7, 17};
                due(laws[law] + " of " + i, x.of(i, 5), words[law]);
            }
        }
        ThirteenthLoaf y = with(1, 1, 1, 1);
        for (int i = 0; i < 4; i++) {
            y.put(i, 1, 2 * i);
        }
        rule(y, "waits if theirs=rank+2 and other=who+1");
        for (int i = 0; i < 4; i++) {
            for (int other = 0; other < 4; other++) {
                due(i + " for " + other, y.waits(i, other), i == other ? NONE : other == i + 1 ? 1 : 0);
            }
        }
    }

    private static void brokenBeyondTheMost() {
        says("Beyond 1,000,000,000 either way .. a SUM, a TEST is BROKEN");
        dueWants("wants " + MOST, 40);
        dueWants("wants " + MOST + "+0", 40);
        dueWants("wants " + MOST + "+1", 6);
        dueWants("wants " + MOST + "-[0-1]", 6);
        dueWants("wants " + MOST + "*2", 6);
        dueWants("wants 1000*1000*999+1000*1000", 40);
        dueWants("wants 1000*1000*999+1000*1000+1", 6);
        dueWants("wants 0-" + MOST, 0);
        dueWants("wants 0-" + MOST + "-1", 6);
        dueWants("wants 0-" + MOST + "+[0-1]", 6);
        dueWants("wants [0-" + MOST + "]*2", 6);
        dueWants("wants [0-" + MOST + "]*[0-1]", 40);
        dueWants("wants [0-" + MOST + "]/[0-1]", 40);
        dueWants("wants 8 if " + MOST + "=" + MOST, 8);
        dueWants("wants 8 if " + MOST + ">0-" + MOST, 8);
        dueWants("wants 8 if 0-" + MOST + "<" + MOST, 8);
    }

    private static void brokenBetween() {
        says("Beyond 1,000,000,000 either way .. a SUM .. is BROKEN: also if later steps lead back");
        dueWants("wants " + MOST + "+1-1", 6);
        dueWants("wants " + MOST + "*2/2", 6);
        dueWants("wants [" + MOST + "+1]*0", 6);
        dueWants("wants 0*[" + MOST + "+1]", 6);
        dueWants("wants 0*" + MOST, 0);
        // Beyond 32 bits it is 705,032,704, beyond 64 bits it is below 0.
        dueWants("wants " + MOST + "*5/1000/1000/100", 6);
        dueWants("wants [" + MOST + "]*[" + MOST + "]*10", 6);
        dueWants("wants [" + MOST + "]*[" + MOST + "]/[" + MOST + "]", 6);
    }

    private static void dividedBy0() {
        says("or divided by 0, a SUM, a TEST is BROKEN");
        dueWants("wants 1/0", 6);
        dueWants("wants 0/0", 6);
        dueWants("wants 1/[1-1]", 6);
        dueWants("wants 1/0*0", 6);
        dueWants("wants 8+0/1", 8);
        dueWants("wants 8/[0-1]+20", 12);
        dueWants("wants 8 if 1/0=1/0", 6);
    }

    private static void cutTowards0() {
        says("/ is cut towards 0");
        dueWants("wants 20+7/2", 23);
        dueWants("wants 20+[0-7]/2", 17);
        dueWants("wants 20+7/[0-2]", 17);
        dueWants("wants 20+[0-7]/[0-2]", 23);
        dueWants("wants 20+[0-1]/2", 20);
        dueWants("wants 20+1/2", 20);
        dueWants("wants 20+[0-8]/2", 16);
        dueWants("wants 7/2*2", 6);
    }

    private static void aTestIsBroken() {
        says("a SUM, a TEST is BROKEN");
        dueWants("wants 8 if 1/0<1", 6);
        dueWants("wants 8 if 1<1/0", 6);
        dueWants("wants 8 if not 1/0<1", 6);
        dueWants("wants 8 if not not 1/0<1", 6);
        dueWants("wants 8 if (1/0<1)", 6);
        dueWants("wants 8 if " + MOST + "+1>0", 6);
        dueWants("wants 8 if 0<" + MOST + "+1", 6);
        dueWaits("waits if 1/0<1", 0);
        dueWaits("waits if not 1/0<1", 0);
    }

    private static void brokenAheadOfIt() {
        says("neither that nor its SUM is BROKEN: what another CLAUSE has does not matter");
        dueWants("wants 1/0;wants 5", 5);
        dueWants("wants 5;wants 1/0", 5);
        dueWants("wants 3 if 1/0=1;wants 5", 5);
        dueWants("wants 5;wants 3 if 1/0=1", 5);
        dueWants("waits if 1/0=1;wants 5 if 1=1", 5);
        dueWants("wants 1/0;wants 5 if 1/0=1", 6);
        dueWaits("waits if 1/0=1;waits", 1);
        dueWaits("waits;waits if 1/0=1", 1);
        dueWaits("wants 1/0;waits if 1=1", 1);
        dueWaits("wants 1/0;waits if 1/0=1", 0);
    }

    private static void aClauseHolds() {
        says("A CLAUSE HOLDS, if its \"if\" (if it has one) is so, and neither that nor its SUM is BROKEN");
        dueWants("wants 8", 8);
        dueWants("wants 8 if 1=1", 8);
        dueWants("wants 8 if 1=2", 6);
        dueWants("wants 8 if 1/0=1", 6);
        dueWants("wants 1/0 if 1=1", 6);
        dueWants("wants 1/0 if 1=2", 6);
        dueWants("wants 1/0 if 1/0=1", 6);
        dueWaits("waits", 1);
        dueWaits("waits if 1=1", 1);
        dueWaits("waits if 1=2", 0);
        dueWants("wants 8 if 1<1", 6);
        dueWants("wants 8 if 0<1", 8);
        dueWants("wants 8 if 1<0", 6);
        dueWants("wants 8 if 1>1", 6);
        dueWants("wants 8 if 1>0", 8);
        dueWants("wants 8 if 0>1", 6);
        dueWants("wants 8 if 0=1", 6);
    }

    private static void comparisonsOfEachPair() {
        says("PLAIN: \"not\" PLAIN | .. | SUM (\"<\" | \">\" | \"=\") SUM");
        for (int left = -2; left <= 3; left++) {
            for (int right = -2; right <= 3; right++) {
                boolean[] so = {left < right, left > right, left == right};
                for (int sign = 0; sign < 3; sign++) {
                    String test = sum(left) + "<>=".charAt(sign) + sum(right);
                    dueWants("wants 9 if " + test, so[sign] ? 9 : 6);
                    dueWants("wants 9 if not " + test, so[sign] ? 6 : 9);
                    dueWants("wants 9 if not not " + test, so[sign] ? 9 : 6);
                    dueWants("wants 9 if " + test + " or 1=2", so[sign] ? 9 : 6);
                    dueWants("wants 9 if " + test + " and 1=1", so[sign] ? 9 : 6);
                }
            }
        }
    }

    private static String sum(int number) {
        return number < 0 ? "0-" + -number : String.valueOf(number);
    }

    private static void comparisonsWithinTests() {
        says("SUM (\"<\" | \">\" | \"=\") SUM: so or not, wherever it stands");
        for (String so : new String[] {"0<1", "1>0", "1=1"}) {
            dueWants("wants 8 if not " + so, 6);
            dueWants("wants 8 if not not " + so, 8);
            dueWants("wants 8 if " + so + " or 1/0=1", 8);
            dueWants("wants 8 if " + so + " and 1=2", 6);
            dueWants("wants 8 if 1=2 or " + so, 8);
            dueWants("wants 8 if 1=1 and " + so, 8);
        }
        for (String not : new String[] {"1<0", "0>1", "1=0", "1<1", "1>1"}) {
            dueWants("wants 8 if not " + not, 8);
            dueWants("wants 8 if not (" + not + " and 1/0=1)", 8);
            dueWants("wants 8 if " + not + " or 1=2", 6);
            dueWants("wants 8 if 1=1 and " + not, 6);
        }
    }

    private static boolean joined(boolean left, boolean or, boolean right) {
        return or ? left || right : left && right;
    }

    /** Four in a row without brackets: "and" binds what stands beside it, then "or". */
    private static boolean inARow(boolean[] so, boolean[] or) {
        boolean any = false;
        boolean all = so[0];
        for (int i = 0; i < 3; i++) {
            any |= or[i] && all;
            all = or[i] ? so[i + 1] : all && so[i + 1];
        }
        return any || all;
    }

    /** A TEST of four, some of which are so, with three "or" or "and" between them; behind others. */
    private static void dueFour(String ahead, int which, int signs) {
        boolean[] so = new boolean[4];
        String[] t = new String[4];
        for (int i = 0; i < 4; i++) {
            so[i] = (which >> i & 1) != 0;
            t[i] = so[i] ? "1=1" : "1=2";
        }
        boolean[] or = new boolean[3];
        String[] sign = new String[3];
        for (int i = 0; i < 3; i++) {
            or[i] = (signs >> i & 1) != 0;
            sign[i] = or[i] ? " or " : " and ";
        }
        String start = ahead + "wants 9 if ";
        dueWants(start + t[0] + sign[0] + t[1] + sign[1] + t[2] + sign[2] + t[3], inARow(so, or) ? 9 : 6);
        boolean first = joined(so[0], or[0], so[1]);
        boolean last = joined(so[2], or[2], so[3]);
        dueWants(start + "(" + t[0] + sign[0] + t[1] + ")" + sign[1] + "(" + t[2] + sign[2] + t[3] + ")",
                joined(first, or[1], last) ? 9 : 6);
        dueWants(start + t[0] + sign[0] + "(" + t[1] + sign[1] + "(" + t[2] + sign[2] + t[3] + "))",
                joined(so[0], or[0], joined(so[1], or[1], last)) ? 9 : 6);
        dueWants(start + "((" + t[0] + sign[0] + t[1] + ")" + sign[1] + t[2] + ")" + sign[2] + t[3],
                joined(joined(first, or[1], so[2]), or[2], so[3]) ? 9 : 6);
        dueWants(start + "not(" + t[0] + sign[0] + t[1] + ")" + sign[1] + "not(" + t[2] + sign[2] + t[3] + ")",
                joined(!first, or[1], !last) ? 9 : 6);
    }

    private static void testsOfFour() {
        says("TEST: BOTH {\"or\" BOTH}. BOTH: PLAIN {\"and\" PLAIN}. PLAIN: \"not\" PLAIN | \"(\" TEST \")\"");
        for (int which = 0; which < 16; which++) {
            for (int signs = 0; signs < 8; signs++) {
                dueFour("", which, signs);
            }
        }
    }

    private static void testsFarBehind() {
        says("CLAUSE {\";\" CLAUSE}, 12 at most .. 50 PARTS: the last of them is asked as the first is");
        for (int parts = 1; parts <= 39; parts += 2) {
            String ahead = "wants 1" + "+1".repeat(parts - 1) + " if 1>1;";
            for (int which = 0; which < 16; which += 5) {
                for (int signs = 0; signs < 8; signs++) {
                    dueFour(ahead, which, signs);
                }
            }
        }
        dueWants("wants 1+1+1-1;".repeat(11) + "wants 2+3", 5);
        dueWants("wants 1+1+1-1;".repeat(11) + "wants 2+3*[4-2]", 8);
        dueWaits("wants 1+1+1-1;".repeat(11) + "waits if 2+3=5", 1);
        dueWaits("wants 1+1+1-1;".repeat(11) + "waits if 2+3=6 or 2=2", 1);
    }

    private static void whatStandsBehindOr() {
        says("\"or\" .. ask what stands behind only if it can still matter");
        dueWants("wants 8 if 1=1 or 1/0=1", 8);
        dueWants("wants 8 if 1=2 or 1/0=1", 6);
        dueWants("wants 8 if 1/0=1 or 1=1", 6);
        dueWants("wants 8 if 1=2 or 1=1 or 1/0=1", 8);
        dueWants("wants 8 if 1=1 or 1=2 or 1/0=1", 8);
        dueWants("wants 8 if 1=1 or 1=1 and 1/0=1", 8);
        dueWants("wants 8 if (1=1 or 1/0=1) and 1=2", 6);
        dueWants("wants 8 if not (1=1 or 1/0=1) or 1=1", 8);
        dueWants("wants 8 if (1=1 or 1/0=1) and 1/0=1", 6);
        dueWants("wants 8 if 1=2 or 1=2", 6);
        dueWants("wants 8 if 1=2 or 1=1", 8);
        dueWaits("waits if 1=1 or 1/0=1", 1);
    }

    private static void whatStandsBehindAnd() {
        says("\"and\" ask what stands behind only if it can still matter");
        dueWants("wants 8 if not (1=2 and 1/0=1)", 8);
        dueWants("wants 8 if not (1=1 and 1/0=1)", 6);
        dueWants("wants 8 if not (1/0=1 and 1=2)", 6);
        dueWants("wants 8 if 1=2 and 1/0=1 or 1=1", 8);
        dueWants("wants 8 if 1=2 and 1=1 and 1/0=1 or 1=1", 8);
        dueWants("wants 8 if 1=1 and 1=2 and 1/0=1 or 1=1", 8);
        dueWants("wants 8 if 1=1 and 1=1 and 1/0=1 or 1=1", 6);
        dueWants("wants 8 if 1=1 and 1=1", 8);
        dueWants("wants 8 if 1=1 and 1=2", 6);
    }

    private static void wantsFrom0To40() {
        says("0 .. 40 (else the nearest)");
        dueWants("wants 0", 0);
        dueWants("wants 0-1", 0);
        dueWants("wants 0-1000", 0);
        dueWants("wants 1", 1);
        dueWants("wants 39", 39);
        dueWants("wants 40", 40);
        dueWants("wants 41", 40);
        dueWants("wants 1000", 40);
    }

    private static void theLastThatHolds() {
        says("as many loaves as the last \"wants\" that HOLDS tells");
        dueWants("wants 7; wants 8", 8);
        dueWants("wants 8; wants 7", 7);
        dueWants("wants 7; wants 8 if 1=2", 7);
        dueWants("wants 7; wants 8 if 1/0=1", 7);
        dueWants("wants 7; wants 1/0", 7);
        dueWants("wants 7; waits", 7);
        dueWants("wants 7; wants 0", 0);
        dueWants("wants 7; wants 0-1", 0);
        dueWants("waits; wants 7; waits; wants 9 if 1=1; wants 8 if 1=2; waits", 9);
    }

    private static void baseWithout() {
        says("BASE without");
        dueWants("waits", 6);
        dueWants("wants 7 if 1=2", 6);
        dueWants("wants 7/0; wants 8 if 1/0=1", 6);
        ThirteenthLoaf x = with(0, 40);
        due("BASE 0", x.of(0, 5), 0);
        due("BASE 40", x.of(1, 5), 40);
    }

    private static void waitsIfOneHolds() {
        says("He WAITS for another one, if \"waits\" HOLDS");
        dueWaits("wants 1", 0);
        dueWaits("waits if 1=2; waits", 1);
        dueWaits("waits; waits if 1=2", 1);
        dueWaits("waits if 1/0=1; waits if 1=2", 0);
        dueWaits("waits if 1=2; wants 5; wants 1/0; waits if 1=1", 1);
    }

    private static void notServedAhead() {
        says("he is not served ahead of him");
        ThirteenthLoaf x = with(1, 1, 1);
        rule(x, "waits if who=0 and other=2");
        due("orders", x.orders(), 3);
        due("the first order", digits(x.best(2), x.best(3), x.best(4)), 120);
    }
}
