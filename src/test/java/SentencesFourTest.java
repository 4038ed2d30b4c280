/** Part 4 of the document, a test for each sentence that names an edge: forgers, clerks, years, images, what is told. */
public final class SentencesFourTest {
    public static void main(String[] args) {
        sampleEdges();
        sampleThatCanNotBe();
        sampleInLowestTerms();
        setsAreBits();
        sights();
        forgotten();
        justSoMany();
        soManyAtLeast();
        atTheMostSoManyUntrue();
        clerksByPlace();
        countTheLeast();
        countNone();
        yearBySeed();
        yearDraws();
        yearActs();
        yearIfThatCanBe();
        yearAtTheLimits();
        yearIsNotDone();
        imageKeepsAllButThePad();
        imagesAreTwo();
        restoredAsItWas();
        toldNumbers();
        toldWhat();
        Check.finish("SentencesFourTest");
    }

    private static void sampleIs(AbbeyNotes x, int n, int f, int k, int j, long upper, long lower) {
        String call = "sample " + n + " " + f + " " + k + " " + j;
        Check.due(call + " upper", x.sample(n, f, k, j, 0), upper);
        Check.due(call + " lower", x.sample(n, f, k, j, 1), lower);
    }

    private static void sampleEdges() {
        Check.sentence("SAMPLE: of n notes (1 to 30) f (0 to n) are forged; k (0 to n) are drawn: that j (0 to k) of them are");
        AbbeyNotes x = new AbbeyNotes();
        sampleIs(x, 1, 0, 0, 0, 1, 1);
        sampleIs(x, 1, 1, 0, 0, 1, 1);
        sampleIs(x, 1, 0, 1, 0, 1, 1);
        sampleIs(x, 1, 1, 1, 1, 1, 1);
        sampleIs(x, 30, 0, 30, 0, 1, 1);
        sampleIs(x, 30, 30, 30, 30, 1, 1);
        sampleIs(x, 30, 30, 0, 0, 1, 1);
        sampleIs(x, 30, 17, 30, 17, 1, 1);
        sampleIs(x, 30, 1, 29, 0, 1, 30);
        sampleIs(x, 30, 1, 29, 1, 29, 30);
        sampleIs(x, 30, 15, 15, 0, 1, 155117520);
        sampleIs(x, 30, 15, 15, 15, 1, 155117520);
        sampleIs(x, 30, 2, 2, 1, 56, 435);
    }

    private static void sampleThatCanNotBe() {
        Check.sentence("that j (0 to k) of them are");
        AbbeyNotes x = new AbbeyNotes();
        sampleIs(x, 1, 0, 1, 1, 0, 1);
        sampleIs(x, 1, 1, 1, 0, 0, 1);
        sampleIs(x, 30, 4, 5, 5, 0, 1);
        sampleIs(x, 30, 4, 5, 4, 1, 5481);
        sampleIs(x, 30, 26, 5, 0, 0, 1);
        sampleIs(x, 30, 26, 5, 1, 1, 5481);
        sampleIs(x, 30, 0, 30, 30, 0, 1);
        sampleIs(x, 30, 30, 30, 0, 0, 1);
    }

    private static void sampleInLowestTerms() {
        Check.sentence("Fractions are told in lowest terms by part: 0 the upper, 1 the lower number");
        AbbeyNotes x = new AbbeyNotes();
        sampleIs(x, 4, 2, 2, 1, 2, 3);
        sampleIs(x, 6, 3, 1, 1, 1, 2);
        sampleIs(x, 10, 3, 2, 1, 7, 15);
        sampleIs(x, 5, 2, 2, 2, 1, 10);
    }

    private static void setsAreBits() {
        Check.sentence("Sets are bits");
        for (int i = 0; i < 8; i++) {
            AbbeyNotes x = new AbbeyNotes();
            x.lot(i, 99, 3);
            Check.due("LOTS of D", x.told(42), 1 << i);
            Check.due("LOTS of D behind no text", x.behind(3, 2), 1 << i);
            x.lot(i, 99, -1);
            Check.due("the LOT for a purse", x.buys(99, 1), 1 << i);
            x.seen(1 << i, 0, 0);
            Check.due("the clerk who did not", x.clerks(1, 0), 1 << i);
        }
    }

    private static void sights() {
        Check.sentence("SIGHTS, 8 at most");
        AbbeyNotes x = new AbbeyNotes();
        for (int i = 1; i <= 8; i++) {
            Check.due("told ahead of it", x.told(5), i - 1);
            // The last one alone is of chest 0.
            Check.due("SIGHT " + i, x.seen(i == 8 ? 1 : 255, 0, i == 8 ? 0 : 1), i);
        }
        Check.due("one too many", x.seen(255, 8, 0), Check.FULL);
        Check.due("told", x.told(5), 8);
        Check.due("the last one is looked at", x.clerks(1, -1), 1);
        Check.due("chest 0 was not burnt truly", x.clerks(1, 0), 1);
        Check.due("those of 3 with chest 0", x.clerks(3, -1), 1 + 7 + 21);
    }

    private static void forgotten() {
        Check.sentence("SIGHTS go: how many there were");
        AbbeyNotes x = new AbbeyNotes();
        Check.due("none", x.forget(), 0);
        x.seen(1, 0, 0);
        Check.due("one", x.forget(), 1);
        Check.due("gone", x.forget(), 0);
        Check.due("told", x.told(5), 0);
        Check.due("not looked at", x.clerks(1, -1), 9);
        for (int i = 1; i <= 8; i++) {
            Check.due("from the first on", x.seen(0, 1, 0), i);
        }
        Check.due("all", x.forget(), 8);
        Check.due("not looked at", x.clerks(3, -1), 93);
        Check.due("room again", x.seen(0, 0, 0), 1);
    }

    private static void justSoMany() {
        Check.sentence("of a set of chests so many (0 to 8) were burnt truly (how 0: just so many");
        for (int many = 0; many <= 8; many++) {
            AbbeyNotes x = new AbbeyNotes();
            x.seen(7, many, 0);
            Check.due("of three chests " + many, x.clerks(3, -1), many <= 3 ? new int[] {1, 18, 48, 26}[many] : 0);
            x.forget();
            x.seen(255, many, 0);
            Check.due("of all " + many, x.clerks(3, -1), many < 5 ? 0 : new int[] {56, 28, 8, 1}[many - 5]);
            x.forget();
            x.seen(0, many, 0);
            Check.due("of none " + many, x.clerks(3, -1), many == 0 ? 93 : 0);
        }
    }

    private static void soManyAtLeast() {
        Check.sentence("1: so many at least)");
        for (int many = 0; many <= 8; many++) {
            AbbeyNotes x = new AbbeyNotes();
            x.seen(7, many, 1);
            Check.due("of three chests " + many, x.clerks(3, -1), many <= 3 ? new int[] {93, 92, 74, 26}[many] : 0);
            x.forget();
            x.seen(255, many, 1);
            Check.due("of all " + many, x.clerks(3, -1), many <= 5 ? 93 : new int[] {37, 9, 1}[many - 6]);
            x.forget();
            x.seen(0, many, 1);
            Check.due("of none " + many, x.clerks(3, -1), many == 0 ? 93 : 0);
        }
    }

    private static void atTheMostSoManyUntrue() {
        Check.sentence("d of them (0 to 3) at the most did not");
        AbbeyNotes x = new AbbeyNotes();
        int[] many = {1, 9, 37, 93};
        int[] last = {0, 128, 192, 224};
        for (int d = 0; d <= 3; d++) {
            Check.due("how many of " + d, x.clerks(d, -1), many[d]);
            Check.due("the first of " + d, x.clerks(d, 0), 0);
            Check.due("the last of " + d, x.clerks(d, many[d] - 1), last[d]);
            Check.due("behind the last of " + d, x.clerks(d, many[d]), Check.NONE);
        }
        x.seen(255, 5, 0);
        Check.due("three did not, of 2", x.clerks(2, -1), 0);
        Check.due("three did not, of 3", x.clerks(3, -1), 56);
    }

    private static void clerksByPlace() {
        Check.sentence("CLERKS: how many (i = -1), the i-th; NONE (i below -1, too)");
        AbbeyNotes x = new AbbeyNotes();
        int[] rising = {0, 1, 2, 4, 8, 16, 32, 64, 128};
        for (int i = 0; i < 9; i++) {
            Check.due("the i-th " + i, x.clerks(1, i), rising[i]);
        }
        int[] three = {0, 1, 2, 3, 4, 5, 6, 7, 8, 9, 10, 11, 12, 13, 14, 16};
        for (int i = 0; i < three.length; i++) {
            Check.due("the i-th of three " + i, x.clerks(3, i), three[i]);
        }
        for (int i : new int[] {9, 10, 255, 256, 65536, Integer.MAX_VALUE, -2, -3, -256, -65537, Integer.MIN_VALUE}) {
            Check.due("there is none " + i, x.clerks(1, i), Check.NONE);
        }
        x.seen(1, 0, 0);
        x.seen(1, 1, 0);
        Check.due("no set fits", x.clerks(3, -1), 0);
        Check.due("no set fits, the first", x.clerks(3, 0), Check.NONE);
        Check.due("no set fits, below", x.clerks(3, -2), Check.NONE);
    }

    private static void countTheLeast() {
        Check.sentence("fewest sets are left at the most: the least; how many");
        AbbeyNotes x = new AbbeyNotes();
        int[] left = {1, 8, 29, 64};
        for (int d = 0; d <= 3; d++) {
            Check.due("all chests alike " + d, x.count(d, 0), 0);
            Check.due("left of " + d, x.count(d, 1), left[d]);
        }
        x.seen(128, 0, 0);
        Check.due("one set is left", x.count(1, 1), 1);
        Check.due("nothing to learn: the least", x.count(1, 0), 0);
        x.forget();
        x.seen(192, 1, 0);
        Check.due("the last two: the least of these", x.count(1, 0), 6);
        Check.due("one is left", x.count(1, 1), 1);
        x.forget();
        x.seen(128, 0, 0);
        Check.due("7 is known; with one more of 7 chests", x.count(2, 0), 0);
        Check.due("7 of 8 are left", x.count(2, 1), 7);
        x.seen(127, 6, 0);
        Check.due("one of seven", x.count(2, 1), 6);
        x.seen(3, 2, 0);
        Check.due("0 and 1 are known, too", x.count(2, 0), 2);
        Check.due("one of five", x.count(2, 1), 4);
        x.forget();
        x.seen(28, 0, 0);
        Check.due("all three are known: one set", x.count(3, 1), 1);
        for (int chest = 0; chest < 8; chest++) {
            x.forget();
            x.seen(255 & ~(1 << chest), 7, 0);
            Check.due("all others are known", x.count(1, 0), chest);
            Check.due("all others are known, how many", x.count(1, 1), 1);
        }
    }

    private static void countNone() {
        Check.sentence("COUNT: the chest (what = 0), how many (1); NONE: no set fits");
        AbbeyNotes x = new AbbeyNotes();
        x.seen(255, 7, 0);
        Check.due("none of 0", x.count(0, 0), Check.NONE);
        Check.due("none of 0, how many", x.count(0, 1), Check.NONE);
        Check.due("some of 1", x.count(1, 0), 0);
        Check.due("some of 1, how many", x.count(1, 1), 7);
        x.seen(0, 1, 1);
        Check.due("none of 3", x.count(3, 0), Check.NONE);
        Check.due("none of 3, how many", x.count(3, 1), Check.NONE);
    }

    private static void yearBySeed() {
        Check.sentence("x, the seed at first, becomes (75 x and 74) left over by 65537");
        AbbeyNotes x = new AbbeyNotes();
        // 0: 74, C changes 20.
        Check.due("seed 0", x.year(0, 1, 0), 600);
        // 872: 65474, just not left over: 6 hundreds are printed.
        Check.due("seed 872", x.year(872, 1, 0), 1200);
        // 873: 65549, 12 are left over: A buys LOT 0.
        Check.due("seed 873", x.year(873, 1, 0), 500);
        Check.due("seed 873, LOTS", x.year(873, 1, 2), 7);
        // 9999: 749999, 29092 are left over: 4 hundreds are printed.
        Check.due("seed 9999", x.year(9999, 1, 0), 1000);
        Check.due("seed 9999, RATE", x.year(9999, 1, 1), 80);
    }

    private static void yearDraws() {
        Check.sentence("of ONE x left over by 6, by x by 6 (cut) left over by 8");
        AbbeyNotes x = new AbbeyNotes();
        // One ACT each, of all that are seen at once: what is drawn first and what is drawn last.
        Check.due("965, 6912: 1 hundred is printed", x.year(965, 1, 0), 700);
        Check.due("33, 2549: 9 hundreds are printed", x.year(33, 1, 0), 1500);
        Check.due("977, 7812: 1 hundred is forged for A", x.year(977, 1, 0), 700);
        Check.due("45, 3449: 9 hundreds are forged for F", x.year(45, 1, 0), 1500);
        int[] seeds = {873, 955, 101, 55};
        int[] ones = {0, 0, 5, 5};
        int[] lots = {0, 0, 7, 7};
        for (int i = 0; i < 4; i++) {
            AbbeyNotes y = new AbbeyNotes();
            y.lot(lots[i], 77, -1);
            Check.due("he buys that LOT by " + seeds[i], y.year(seeds[i], 1, 0), 523);
            Check.due("LOTS by " + seeds[i], y.year(seeds[i], 1, 2), 7);
            y.one(ones[i], 76, 0);
            Check.due("it is that ONE by " + seeds[i], y.year(seeds[i], 1, 2), 8);
        }
        // 0: C changes 20; 919: A is paid 100; 952: D pays D; 931: a month ends.
        for (int seed : new int[] {0, 919, 952, 931}) {
            Check.due("NOTES as they were by " + seed, x.year(seed, 1, 0), 600);
            Check.due("LOTS as they were by " + seed, x.year(seed, 1, 2), 8);
        }
    }

    private static void yearActs() {
        Check.sentence("of m ACTS (1 to 99)");
        AbbeyNotes x = new AbbeyNotes();
        // 172: C buys LOT 6, then E would.
        Check.due("one ACT", x.year(172, 1, 2), 7);
        Check.due("two", x.year(172, 2, 2), 7);
        // 1: 4 hundreds are printed, F buys LOT 2, 6 hundreds are forged for F, E changes 10, 7 hundreds are printed.
        int[] notes = {1000, 900, 1500, 1500, 2200};
        int[] rate = {80, 77, 46, 46, 31};
        int[] lots = {8, 7, 7, 7, 7};
        for (int m = 1; m <= 5; m++) {
            Check.due("NOTES by " + m, x.year(1, m, 0), notes[m - 1]);
            Check.due("RATE by " + m, x.year(1, m, 1), rate[m - 1]);
            Check.due("LOTS by " + m, x.year(1, m, 2), lots[m - 1]);
        }
        Check.due("99 ACTS are more than 98", acts99Count(), 99);
    }

    /** The last of 99 ACTS counts: by some seeds it prints, and NOTES are more than by 98. */
    private static int acts99Count() {
        int most = 0;
        for (int seed = 0; seed < 200 && most < 99; seed++) {
            AbbeyNotes x = new AbbeyNotes();
            for (int m = 90; m <= 99; m++) {
                if (x.year(seed, m, 0) > x.year(seed, m - 1, 0)) {
                    most = Math.max(most, m);
                }
            }
        }
        return most;
    }

    private static void lotsLeft(String why, AbbeyNotes x, int seed, int m, int left) {
        Check.due(why, x.year(seed, m, 2), left);
    }

    private static void yearIfThatCanBe() {
        Check.sentence("each if that can be: NOTES; RATE; LOTS that are the STATE's");
        AbbeyNotes x = new AbbeyNotes();
        // 1063: A is paid 100, A buys LOT 0.
        x.lot(0, 200, -1);
        lotsLeft("the STATE has nothing", x, 1063, 2, 8);
        x.set(0, 99);
        lotsLeft("the STATE has too little", x, 1063, 2, 8);
        x.set(0, 100);
        lotsLeft("A has just enough then", x, 1063, 2, 7);
        x.lot(0, 201, -1);
        lotsLeft("A has just too little then", x, 1063, 2, 8);
        // 281: F changes 90, F buys LOT 6.
        x.lot(6, 10, -1);
        lotsLeft("F has 10 then", x, 281, 2, 7);
        x.lot(6, 11, -1);
        lotsLeft("F has just too little then", x, 281, 2, 8);
        x.one(5, 89, 0);
        lotsLeft("F has too little to change", x, 281, 2, 7);
        x.one(5, 90, 0);
        lotsLeft("F has just enough to change", x, 281, 2, 8);
        // 299: F pays A, A buys LOT 6.
        x.owe(5, 0, 50);
        x.lot(6, 150, -1);
        lotsLeft("A has 150 then", x, 299, 2, 7);
        x.lot(6, 151, -1);
        lotsLeft("A has just too little then", x, 299, 2, 8);
        x.one(0, 9950, 0);
        x.one(5, 90, 0);
        x.lot(7, 41, -1);
        // 491: F pays A, F buys LOT 7.
        lotsLeft("A would have too much, F keeps his 90", x, 491, 2, 7);
        x.one(0, 9949, 0);
        lotsLeft("A has just all he may, F has 40", x, 491, 2, 8);
        // 172: C buys LOT 6, then E would.
        x.lot(6, 100, -1);
        x.one(4, 999, 0);
        lotsLeft("E can not buy what is C's", x, 172, 2, 7);
        x.one(2, 99, 0);
        Check.due("E buys what C could not", x.year(172, 2, 0), x.told(6) - 100);
    }

    private static void yearAtTheLimits() {
        Check.sentence("from all as it is");
        AbbeyNotes x = new AbbeyNotes();
        // 33: 9 hundreds are printed; 45: 9 hundreds are forged for F.
        x.set(0, 99099);
        Check.due("the STATE just has room", x.year(33, 1, 0), 100599);
        x.set(0, 99100);
        Check.due("the STATE has no room", x.year(33, 1, 0), 99700);
        x.set(0, 0);
        x.one(5, 9099, 0);
        Check.due("F just has room", x.year(45, 1, 0), 10499);
        x.one(5, 9100, 0);
        Check.due("F has no room", x.year(45, 1, 0), 9600);
        x.one(5, 100, 0);
        x.set(1, 99099);
        Check.due("FORGED just has room", x.year(45, 1, 0), 1500);
        x.set(1, 99100);
        Check.due("FORGED has no room", x.year(45, 1, 0), 600);
        for (int seed = 5; seed < 10000; seed += 37) {
            Years.followed(atTheLimits(), seed, Years.MOST_ACTS - seed % 40);
        }
    }

    /** Where most ACTS just can or just can not be. */
    private static AbbeyNotes atTheLimits() {
        AbbeyNotes x = new AbbeyNotes();
        x.set(0, 98800);
        x.set(1, 98500);
        for (int i = 0; i < 6; i++) {
            x.one(i, i % 2 == 0 ? 9400 : 150, 9990);
            x.owe(i, (i + 1) % 6, 600);
            x.owe(i, (i + 3) % 6, 40);
        }
        x.lot(0, 999, -1);
        x.lot(1, 1, -1);
        x.lot(2, 500, 3);
        return x;
    }

    private static void yearIsNotDone() {
        Check.sentence("Nothing is DONE in fact");
        AbbeyNotes x = Scene.make();
        for (int seed = 0; seed < 40; seed++) {
            x.year(seed * 251, 99, seed % 3);
        }
        Check.same("as before", Scene.look(x), Scene.look(Scene.make()));
    }

    private static void imageKeepsAllButThePad() {
        Check.sentence("All but the PAD is kept in an IMAGE (0, 1): 1");
        for (int k = 0; k < 2; k++) {
            AbbeyNotes x = Scene.make();
            AbbeyNotes y = Scene.make();
            y.wipe();
            Check.due("kept", x.image(k), 1);
            for (int i = 0; i < 6; i++) {
                x.one(i, 1, 1);
                x.owe(i, (i + 1) % 6, 1);
                x.owe((i + 3) % 6, i, 1);
                x.lot(i, 1, 0);
            }
            x.lot(6, 1, -1);
            x.lot(7, 1, 2);
            x.set(0, 1);
            x.set(1, 1);
            x.forget();
            x.seen(1, 1, 1);
            Check.anew(x, "..A$6");
            Check.due("months, BURNT", x.done(), 3);
            Check.due("restored", x.restore(k), 1);
            Check.due("the PAD is not kept", x.told(0), 0);
            Check.same("all is as kept", Check.all(x), Check.all(y));
            for (int i = -1; i < 20; i++) {
                Check.due("SIGHTS as kept", x.clerks(3, i), y.clerks(3, i));
            }
        }
    }

    private static void imagesAreTwo() {
        Check.sentence("OUTSIDE; STATE: it was not");
        AbbeyNotes x = new AbbeyNotes();
        Check.due("0 was not kept", x.restore(0), Check.STATE);
        Check.due("1 was not kept", x.restore(1), Check.STATE);
        x.one(0, 11, 1);
        Check.due("1 is kept", x.image(1), 1);
        Check.due("0 was not kept", x.restore(0), Check.STATE);
        x.one(0, 22, 2);
        Check.due("0 is kept", x.image(0), 1);
        x.one(0, 33, 3);
        Check.due("1 is restored", x.restore(1), 1);
        Check.due("as in 1", x.told(10), 11);
        Check.due("0 is restored", x.restore(0), 1);
        Check.due("as in 0", x.told(10), 22);
        x.one(0, 44, 4);
        Check.due("0 is kept anew", x.image(0), 1);
        x.restore(1);
        Check.due("1 stays", x.told(10), 11);
        x.restore(0);
        Check.due("0 is the later one", x.told(10), 44);
    }

    private static void restoredAsItWas() {
        Check.sentence("It is as it was when it was kept: 1");
        AbbeyNotes x = new AbbeyNotes();
        x.image(0);
        Check.say(x, "+1A");
        Check.due("restored", x.restore(0), 1);
        Check.due("the PAD stays", x.told(0), 3);
        Check.due("its FAULT stays", x.fault(), 3);
        Check.say(x, "@1.");
        Check.due("its text goes on", x.done(), 3);
        Check.due("done", x.told(10), 200);
        Check.due("restored again", x.restore(0), 1);
        Check.due("not done", x.told(10), 100);
        Check.due("no month", x.told(4), 0);
        x.one(0, 5, 5);
        Check.due("and again", x.restore(0), 1);
        Check.due("an IMAGE is no part of now", x.one(0, 6, 6), 1000100);
        Check.due("and again", x.restore(0), 1);
        Check.due("as it was", x.told(10), 100);
    }

    private static void toldNumbers() {
        Check.sentence("10 times (1 and a ONE) and 0 PAPER, 1 COIN, 2 LOTS (bits); 100 and 10 times a LOT and 0 PRICE");
        for (int from = -300; from < 600; from += 300) {
            AbbeyNotes x = Scene.make();
            for (int what = from; what < from + 300; what++) {
                long got = x.told(what);
                if (Check.isTold(what)) {
                    Check.due("told " + what + " is taken", got >= 0 || got == Check.NONE ? 1 : 0, 1);
                } else {
                    Check.due("told " + what, got, Check.OUTSIDE);
                }
            }
        }
        AbbeyNotes x = Scene.make();
        for (int what : new int[] {Integer.MIN_VALUE, Integer.MIN_VALUE + 10, Integer.MAX_VALUE, 65536, 65546, 2000, -10, -6, -1}) {
            Check.due("told " + what, x.told(what), Check.OUTSIDE);
        }
        Check.same("nothing is changed", Scene.look(x), Scene.look(Scene.make()));
    }

    private static void toldWhat() {
        Check.sentence("1 whose it is (NONE: the STATE's); "
            + "200 and 10 times a ONE and another one: what the first OWES that one (of himself 0). OUTSIDE");
        AbbeyNotes x = new AbbeyNotes();
        for (int i = 0; i < 6; i++) {
            x.one(i, 9990 + i, 9980 + i);
            for (int k = 0; k < 6; k++) {
                x.owe(i, k, 100 * i + k + 1);
            }
            x.lot(i, 990 + i, i);
        }
        for (int i = 0; i < 6; i++) {
            Check.due("PAPER", x.told(10 * (1 + i)), 9990 + i);
            Check.due("COIN", x.told(10 * (1 + i) + 1), 9980 + i);
            Check.due("LOTS", x.told(10 * (1 + i) + 2), 1 << i);
            for (int k = 0; k < 6; k++) {
                Check.due("OWES", x.told(200 + 10 * i + k), i == k ? 0 : 100 * i + k + 1);
            }
            Check.due("PRICE", x.told(100 + 10 * i), 990 + i);
            Check.due("whose", x.told(101 + 10 * i), i);
        }
        Check.due("the STATE's", x.told(161), Check.NONE);
        Check.due("the STATE's, the last", x.told(171), Check.NONE);
        Check.due("PRICE of the last", x.told(170), 100);
        x.set(0, 99999);
        x.set(1, 99998);
        x.seen(1, 1, 1);
        Check.say(x, "A$7.");
        int[] all = {4, 99999, 99998, 0, 0, 1, 99999 + 6 * 9990 + 15, 200, 0};
        for (int what = 0; what <= 8; what++) {
            Check.due("told " + what, x.told(what), all[what]);
        }
        x.done();
        int[] done = {0, 99999, 99998, 100, 1, 1, 99899 + 6 * 9990 + 15, 100, 0};
        for (int what = 0; what <= 8; what++) {
            Check.due("told behind it " + what, x.told(what), done[what]);
        }
        Check.due("bits of two LOTS", x.told(12), 129);
    }
}
