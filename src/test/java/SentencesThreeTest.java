/** Part 3 of the document, a test for each sentence that names an edge: printing, buying, waiting. */
public final class SentencesThreeTest {
    public static void main(String[] args) {
        printsTheMost();
        printsNone();
        printsWhateverRoom();
        buysAnyPurse();
        buysTheStatesAlone();
        buysLeastBits();
        runsFromTheFirstMonth();
        runsByHundredsLess();
        runsCut();
        runsRateAtTheMost();
        runsHundredMonths();
        runsLandOfNow();
        wagesByMonthsAhead();
        wagesWhereItIsMore();
        wagesOfNineDigits();
        changeAtOnce();
        changeNotBelowNothing();
        changeIfTheSame();
        changeForCertain();
        changeMayWait();
        changeDoingBest();
        changeInLowestTerms();
        asThingsAreNow();
        Check.finish("SentencesThreeTest");
    }

    /** All LOTS at one PRICE, all the STATE's. */
    private static void allLots(AbbeyNotes x, int price) {
        for (int lot = 0; lot < 8; lot++) {
            x.lot(lot, price, -1);
        }
    }

    private static void noLand(AbbeyNotes x) {
        for (int lot = 0; lot < 8; lot++) {
            x.lot(lot, 100, lot % 6);
        }
    }

    /** NOTES are what the STATE has alone. */
    private static void stateAlone(AbbeyNotes x, int notes) {
        for (int i = 0; i < 6; i++) {
            x.one(i, 0, 0);
        }
        x.set(0, notes);
    }

    private static void printsTheMost() {
        Check.sentence("PRINTS: the most hundreds that can be printed so that RATE is v (1 to 100) or more: 0 to 999");
        AbbeyNotes x = new AbbeyNotes();
        Check.due("800 by 800", x.prints(100), 2);
        Check.due("800 by 800, too", x.prints(99), 2);
        x.one(0, 99, 0);
        Check.due("799 and not 899", x.prints(100), 2);
        x.one(0, 101, 0);
        Check.due("701 and not 801", x.prints(100), 1);
        Check.due("801 is 99", x.prints(99), 2);
        stateAlone(x, 0);
        Check.due("80000 is 1", x.prints(1), 800);
        x.set(0, 1);
        Check.due("79901 is 1, 80001 is 0", x.prints(1), 799);
        allLots(x, 999);
        x.set(0, 0);
        Check.due("88800 is 9", x.prints(9), 888);
        Check.due("99900 is 8", x.prints(8), 999);
        Check.due("999 at the most, though 114100 is 7", x.prints(7), 999);
        Check.due("999 at the most, though 799200 is 1", x.prints(1), 999);
        x.set(0, 1);
        Check.due("99801 is 8, 99901 is 7", x.prints(8), 998);
    }

    private static void printsNone() {
        Check.sentence("PRINTS; NONE");
        AbbeyNotes x = new AbbeyNotes();
        stateAlone(x, 800);
        Check.due("just none more", x.prints(100), 0);
        x.set(0, 801);
        Check.due("too many now", x.prints(100), Check.NONE);
        Check.due("801 is 99", x.prints(99), 0);
        x.set(0, 80000);
        Check.due("just 1", x.prints(1), 0);
        x.set(0, 80001);
        Check.due("0", x.prints(1), Check.NONE);
        noLand(x);
        x.set(0, 1);
        Check.due("no LAND", x.prints(1), Check.NONE);
        x.set(0, 0);
        Check.due("no LAND, no NOTES: RATE is 100 as long as none is printed", x.prints(100), 0);
        Check.due("no LAND, no NOTES", x.prints(1), 0);
    }

    private static void printsWhateverRoom() {
        Check.sentence("(whatever room the STATE has for them)");
        AbbeyNotes x = new AbbeyNotes();
        allLots(x, 999);
        stateAlone(x, 99999);
        Check.due("it has no room for a hundred", x.prints(1), 999);
        Check.due("133200 at 6", x.prints(6), 332);
        Check.due("99999 is 7", x.prints(7), 141);
        Check.due("99999 is not 8", x.prints(8), Check.NONE);
        Check.say(x, "+1");
        Check.due("it can not be printed in fact", x.judge(1), 5);
    }

    private static void buysAnyPurse() {
        Check.sentence("BUYS: LOTS of the STATE that one who has v PAPER (0 to 9999) can buy, worth most together: how much");
        AbbeyNotes x = new AbbeyNotes();
        Check.due("no PAPER", x.buys(0, 0), 0);
        Check.due("no PAPER, which", x.buys(0, 1), 0);
        Check.due("one too little", x.buys(99, 0), 0);
        Check.due("one too little, which", x.buys(99, 1), 0);
        Check.due("just enough", x.buys(100, 0), 100);
        Check.due("just enough, which", x.buys(100, 1), 1);
        Check.due("one too little for all", x.buys(799, 0), 700);
        Check.due("for all", x.buys(800, 0), 800);
        Check.due("for all, which", x.buys(800, 1), 255);
        allLots(x, 999);
        Check.due("all at the dearest", x.buys(9999, 0), 7992);
        Check.due("just all", x.buys(7992, 0), 7992);
        Check.due("just not all", x.buys(7991, 0), 6993);
        allLots(x, 1);
        Check.due("the cheapest", x.buys(1, 0), 1);
        Check.due("the last one", x.buys(8, 1), 255);
        x.one(0, 0, 0);
        Check.due("whatever ONES have", x.buys(8, 0), 8);
    }

    private static void buysTheStatesAlone() {
        Check.sentence("BUYS: LOTS of the STATE");
        AbbeyNotes x = new AbbeyNotes();
        for (int lot = 0; lot < 8; lot++) {
            Check.due("how much", x.buys(9999, 0), 100 * (8 - lot));
            Check.due("which", x.buys(9999, 1), 255 & ~((1 << lot) - 1));
            x.lot(lot, 100, lot % 6);
        }
        Check.due("nothing to buy", x.buys(9999, 0), 0);
        Check.due("nothing to buy, which", x.buys(9999, 1), 0);
    }

    private static void buysLeastBits() {
        Check.sentence("which, least as bits");
        AbbeyNotes x = new AbbeyNotes();
        Check.due("one of eight", x.buys(199, 1), 1);
        Check.due("three of eight", x.buys(300, 1), 7);
        int[] price = {5, 1, 2, 3, 6, 6, 11, 12};
        for (int lot = 0; lot < 8; lot++) {
            x.lot(lot, price[lot], -1);
        }
        Check.due("5 and 1, not 1 and 2 and 3, not 6", x.buys(6, 1), 3);
        Check.due("11 as 5 and 1 and 2 and 3", x.buys(11, 1), 15);
        Check.due("3 as 1 and 2", x.buys(3, 1), 6);
        Check.due("12 of many ways", x.buys(12, 1), 16 + 1 + 2);
    }

    private static void runsFromTheFirstMonth() {
        Check.sentence("the first month (0 on) at the beginning of which RATE is below v (1 to 100)");
        AbbeyNotes x = new AbbeyNotes();
        Check.due("801 is 99, at once", x.runs(801, 0, 100), 0);
        Check.due("800 is 100, for ever", x.runs(800, 0, 100), Check.NONE);
        Check.due("801 is 99, not below 99; 901 is 88", x.runs(801, 0, 99), 1);
        Check.due("the most NOTES", x.runs(99999, 0, 1), 0);
        Check.due("80000 is 1; 89900 is 0", x.runs(80000, 0, 1), 1);
        Check.due("80001 is 0", x.runs(80001, 0, 1), 0);
        Check.due("the fewest NOTES", x.runs(1, 0, 100), Check.NONE);
    }

    private static void runsByHundredsLess() {
        Check.sentence("and besides as many hundreds as 100 less RATE");
        AbbeyNotes x = new AbbeyNotes();
        // 1000: 80, +2000; 3000: 26, +7400; 10400: 7, +9300; 19700: 4, +9600; 29300: 2; 39100: 2; 48900: 1
        int[] below = {81, 80, 27, 26, 8, 7, 5, 4, 3, 2};
        int[] month = {0, 1, 1, 2, 2, 3, 3, 4, 4, 6};
        for (int i = 0; i < below.length; i++) {
            Check.due("below " + below[i], x.runs(1000, 0, below[i]), month[i]);
        }
        Check.due("812 is 98, +200: 1012 is 79", x.runs(812, 0, 79), 2);
        Check.due("813 is 98, +200: 1013 is 78", x.runs(813, 0, 79), 1);
    }

    private static void runsCut() {
        Check.sentence("each month g (0 to 99) of each hundred of them more are printed, cut");
        AbbeyNotes x = new AbbeyNotes();
        Check.due("99 by 1: none", x.runs(99, 1, 100), Check.NONE);
        Check.due("1 by 99: none", x.runs(1, 99, 100), Check.NONE);
        Check.due("2 by 99: 1, 3 then, 5, 9, 17, 33, 65, 129, 256, 509, 1012", x.runs(2, 99, 100), 10);
        Check.due("none of a hundred", x.runs(799, 0, 100), Check.NONE);
        Check.due("793 by 1: 7 more are 800; 808 then", x.runs(793, 1, 100), 2);
        Check.due("794 by 1: 7 more are 801", x.runs(794, 1, 100), 1);
        Check.due("both: 900 is 88, +9 +1200, 2109 is 37", x.runs(900, 1, 38), 1);
        Check.due("both: 2109 is not below 37", x.runs(900, 1, 37), 2);
    }

    private static void runsRateAtTheMost() {
        Check.sentence("RATE being 100 times LAND (of now) by NOTES ahead of it, cut, 100 at the most");
        AbbeyNotes x = new AbbeyNotes();
        Check.due("far above par nothing is printed besides", x.runs(10, 0, 100), Check.NONE);
        // 500 by 10: 550, 605, 665, 731, 804
        Check.due("nothing is taken away", x.runs(500, 10, 100), 5);
    }

    private static void runsHundredMonths() {
        Check.sentence("100 at the most; NONE");
        AbbeyNotes x = new AbbeyNotes();
        // From 100 on, 1 of each hundred is 1 a month until 200: then it is month 100.
        x.lot(0, 199, -1);
        for (int lot = 1; lot < 8; lot++) {
            x.lot(lot, 1, 0);
        }
        Check.due("200 in month 100", x.runs(100, 1, 100), 100);
        Check.due("200 in month 99", x.runs(101, 1, 100), 99);
        x.lot(0, 200, -1);
        Check.due("200 is not below: month 101 were the first", x.runs(100, 1, 100), Check.NONE);
        Check.due("202 in month 100", x.runs(101, 1, 100), 100);
    }

    private static void runsLandOfNow() {
        Check.sentence("LAND (of now)");
        AbbeyNotes x = new AbbeyNotes();
        Check.say(x, "A$0");
        Check.due("not behind the text", x.runs(800, 0, 100), Check.NONE);
        x.done();
        Check.due("behind it once it is done", x.runs(800, 0, 100), 0);
        Check.due("700", x.runs(700, 0, 100), Check.NONE);
        noLand(x);
        Check.due("no LAND", x.runs(1, 0, 1), 0);
        allLots(x, 999);
        Check.due("all LAND", x.runs(7992, 0, 100), Check.NONE);
        Check.due("99999 is 7; 208298 is 3; 424213 is 1; 854083 is 0", x.runs(99999, 99, 1), 3);
        Check.due("99999 is 7", x.runs(99999, 99, 8), 0);
        Check.due("208298 is 3", x.runs(99999, 99, 4), 1);
    }

    private static void wagesByMonthsAhead() {
        Check.sentence("wages of a month are as the price n months (0 to 8) ahead of it (0 ahead of the first one)");
        AbbeyNotes x = new AbbeyNotes();
        for (int n = 0; n <= 8; n++) {
            Check.due("the same all along by " + n, x.wages(111111111, n), n);
            Check.due("the first month alone by " + n, x.wages(900000000, n), n == 0 ? 0 : 9);
            Check.due("the last month alone by " + n, x.wages(9, n), n == 0 ? 0 : 9);
            Check.due("nines all along by " + n, x.wages(999999999, n), 9 * n);
        }
        Check.due("the last month is paid by the first", x.wages(500000007, 8), 5 + 2);
        Check.due("the last month is paid by the second", x.wages(350000007, 7), 3 + 5 + 2);
    }

    private static void wagesWhereItIsMore() {
        Check.sentence("what is lost in all nine months, price less wage, where it is more");
        AbbeyNotes x = new AbbeyNotes();
        Check.due("falling", x.wages(987654321, 1), 9);
        Check.due("rising", x.wages(123456789, 1), 9);
        Check.due("rising by 8", x.wages(123456789, 8), 36 + 8);
        Check.due("what is won does not count", x.wages(919191919, 1), 9 + 8 * 4);
        Check.due("no lag", x.wages(919191919, 0), 0);
    }

    private static void wagesOfNineDigits() {
        Check.sentence("prices are told by a row of nine digits");
        AbbeyNotes x = new AbbeyNotes();
        Check.due("none", x.wages(0, 8), 0);
        Check.due("noughts ahead: 000000010 by 1", x.wages(10, 1), 1);
        Check.due("noughts ahead: 012345678 by 1", x.wages(12345678, 1), 8);
        Check.due("noughts ahead: 000000090 by 8", x.wages(90, 8), 9);
    }

    private static void fraction(AbbeyNotes x, int v, int m, int t, long upper, long lower, long whether) {
        String call = "change " + v + " " + m + " " + t;
        Check.due(call + " upper", x.change(v, m, t, 0, 0), upper);
        Check.due(call + " lower", x.change(v, m, t, 0, 1), lower);
        Check.due(call + " whether, part 0", x.change(v, m, t, 1, 0), whether);
        Check.due(call + " whether, part 1", x.change(v, m, t, 1, 1), whether);
    }

    private static void changeAtOnce() {
        Check.sentence("with m 0 he does: 1, and v in the mean");
        AbbeyNotes x = new AbbeyNotes();
        for (int v : new int[] {0, 1, 37, 59, 60}) {
            for (int t : new int[] {0, 5, 10}) {
                fraction(x, v, 0, t, v, 1, 1);
            }
        }
    }

    private static void changeNotBelowNothing() {
        Check.sentence("it is 3 less with t tenths (0 to 10), else 1 more (0 at least)");
        AbbeyNotes x = new AbbeyNotes();
        // One month: at 0 it is 1/10, at 1 he changes: 1. Two: 9/10 of 1/10 and 1/10 of 1.
        fraction(x, 0, 2, 9, 19, 100, 0);
        // One month: at 0 it is 9/10, at 3 36/10. Two: 1/10 of 9/10 and 9/10 of 36/10.
        fraction(x, 2, 2, 1, 333, 100, 0);
        // One month: at 0 it is 9/10, at 2 27/10. Two: 1/10 of 9/10 and 9/10 of 27/10.
        fraction(x, 1, 2, 1, 63, 25, 0);
        // One month: at 0 it is 9/10, at 4 46/10. Two: 1/10 of 9/10 and 9/10 of 46/10.
        fraction(x, 3, 2, 1, 423, 100, 0);
        // One month: at 1 it is 18/10, at 5 56/10. Two: 1/10 of 18/10 and 9/10 of 56/10.
        fraction(x, 4, 2, 1, 261, 50, 0);
    }

    private static void changeIfTheSame() {
        Check.sentence("whether he changes at once (1, 0; if it is the same, he does");
        AbbeyNotes x = new AbbeyNotes();
        fraction(x, 1, 1, 5, 1, 1, 1);
        fraction(x, 1, 1, 4, 6, 5, 0);
        fraction(x, 1, 1, 6, 1, 1, 1);
        fraction(x, 0, 8, 10, 0, 1, 1);
        fraction(x, 60, 1, 3, 60, 1, 1);
        fraction(x, 60, 1, 2, 301, 5, 0);
        // At 9 with t 1 the mean of 6 and 10 is 96/10.
        fraction(x, 9, 1, 1, 48, 5, 0);
    }

    private static void changeForCertain() {
        Check.sentence("it is 3 less with t tenths (0 to 10)");
        AbbeyNotes x = new AbbeyNotes();
        for (int m = 1; m <= 8; m++) {
            fraction(x, 60, m, 0, 60 + m, 1, 0);
            fraction(x, 0, m, 0, m, 1, 0);
            fraction(x, 60, m, 10, 60, 1, 1);
            fraction(x, 0, m, 10, 0, 1, 1);
            fraction(x, 1, m, 10, 1, 1, 1);
        }
    }

    /** Who may wait a month longer never has less by it, nor more than 1 for it; and v at the least. */
    private static void changeMayWait() {
        Check.sentence("each of m months (0 to 8) he may change (he has v COIN), or wait");
        for (int v = 0; v <= 60; v += 4) {
            AbbeyNotes x = new AbbeyNotes();
            for (int t = 0; t <= 10; t += 2) {
                for (int m = 0; m < 8; m++) {
                    long upper = x.change(v, m, t, 0, 0);
                    long lower = x.change(v, m, t, 0, 1);
                    long longerUpper = x.change(v, m + 1, t, 0, 0);
                    long longerLower = x.change(v, m + 1, t, 0, 1);
                    String call = "change " + v + " " + m + " " + t;
                    Check.due(call + " v at the least", upper >= v * lower ? 1 : 0, 1);
                    Check.due(call + " a month longer", longerUpper * lower >= upper * longerLower ? 1 : 0, 1);
                    Check.due(call + " 1 more", longerUpper * lower <= (upper + lower) * longerLower ? 1 : 0, 1);
                }
            }
        }
    }

    private static void changeDoingBest() {
        Check.sentence("at last (with m 0 at once) he must: what he has in the mean, doing best");
        AbbeyNotes x = new AbbeyNotes();
        // At 0 he waits: 4/10 at last. At 1 he changes: 1, for waiting is 4/10 of 2. To wait for ever were 56/100.
        fraction(x, 0, 2, 6, 16, 25, 0);
        // At 2 he waits (for 7/10 of 3), at 3 he changes (7/10 of 4 is less); so in two months from 2 on it is
        // 3/10 of the 7/10 that 0 brings, and 7/10 of 3.
        fraction(x, 2, 1, 3, 21, 10, 0);
        fraction(x, 2, 2, 3, 231, 100, 0);
        fraction(x, 3, 1, 3, 3, 1, 1);
        // At last he must, though it is 3 less: from 5 by t 2 it is 8/10 of 6 and 2/10 of 2.
        fraction(x, 5, 1, 2, 26, 5, 0);
    }

    private static void changeInLowestTerms() {
        Check.sentence("Fractions are told in lowest terms by part: 0 the upper, 1 the lower number");
        AbbeyNotes x = new AbbeyNotes();
        fraction(x, 0, 1, 8, 1, 5, 0);
        fraction(x, 0, 1, 5, 1, 2, 0);
        fraction(x, 0, 1, 9, 1, 10, 0);
        fraction(x, 0, 8, 10, 0, 1, 1);
    }

    /** Neither the PAD nor a FAULT on it is looked at by any of these. */
    private static void asThingsAreNow() {
        Check.sentence("(As things are now.)");
        AbbeyNotes x = new AbbeyNotes();
        for (String text : new String[] {"+9A$0", "A>A", "+0", "A"}) {
            Check.anew(x, text);
            Check.due("prints with " + text, x.prints(100), 2);
            Check.due("buys with " + text, x.buys(9999, 1), 255);
            Check.due("runs with " + text, x.runs(801, 0, 99), 1);
            Check.due("struck with " + text, x.struck(0), 0);
            Check.due("year with " + text, x.year(0, 1, 2), 8);
            Check.due("the PAD stays", x.told(0), text.length());
        }
    }
}
