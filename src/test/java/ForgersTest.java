/** Promises 20 to 28: samples, clerks, years, images, what is told. */
public final class ForgersTest {
    public static void main(String[] args) {
        sample();
        seenAndForget();
        clerks();
        count();
        year();
        images();
        told();
        Check.finish("ForgersTest");
    }

    private static void sample() {
        AbbeyNotes x = new AbbeyNotes();
        int[][] out = {{0, 0, 0, 0, 0}, {31, 0, 0, 0, 0}, {5, -1, 0, 0, 0}, {5, 6, 0, 0, 0}, {5, 0, -1, 0, 0}, {5, 0, 6, 0, 0},
            {5, 5, 3, -1, 0}, {5, 5, 3, 4, 0}, {5, 5, 3, 3, -1}, {5, 5, 3, 3, 2}, {Integer.MIN_VALUE, 0, 0, 0, 0},
            {Integer.MAX_VALUE, 0, 0, 0, 0}};
        for (int[] o : out) {
            Check.due("sample outside", x.sample(o[0], o[1], o[2], o[3], o[4]), Check.GONE + Check.OUTSIDE);
        }
        sampleIs(x, 4, 2, 2, 1, 2, 3);
        sampleIs(x, 4, 2, 2, 0, 1, 6);
        sampleIs(x, 10, 3, 2, 1, 7, 15);
        sampleIs(x, 5, 1, 3, 2, 0, 1);
        sampleIs(x, 5, 4, 3, 1, 0, 1);
        sampleIs(x, 5, 0, 0, 0, 1, 1);
        sampleIs(x, 1, 1, 1, 1, 1, 1);
        sampleIs(x, 30, 15, 15, 15, 1, 155117520);
        sampleIs(x, 30, 1, 1, 1, 1, 30);
    }

    private static void sampleIs(AbbeyNotes x, int n, int f, int k, int j, long upper, long lower) {
        String call = "sample " + n + " " + f + " " + k + " " + j;
        Check.due(call + " upper", x.sample(n, f, k, j, 0), upper);
        Check.due(call + " lower", x.sample(n, f, k, j, 1), lower);
    }

    private static void seenAndForget() {
        AbbeyNotes x = new AbbeyNotes();
        Check.due("forget nothing", x.forget(), 0);
        int[][] out = {{-1, 0, 0}, {256, 0, 0}, {0, -1, 0}, {0, 9, 0}, {0, 0, -1}, {0, 0, 2}, {Integer.MIN_VALUE, 0, 0},
            {0, Integer.MAX_VALUE, 0}};
        for (int[] o : out) {
            Check.due("seen outside", x.seen(o[0], o[1], o[2]), Check.OUTSIDE);
        }
        for (int i = 1; i <= 8; i++) {
            Check.due("seen", x.seen(255, 8, i % 2), i);
        }
        Check.due("seen full", x.seen(255, 8, 0), Check.FULL);
        for (int[] o : out) {
            Check.due("seen outside ahead of full", x.seen(o[0], o[1], o[2]), Check.OUTSIDE);
        }
        Check.due("sights", x.told(5), 8);
        Check.due("one fits", x.clerks(3, -1), 1);
        Check.due("forget", x.forget(), 8);
        Check.due("forget again", x.forget(), 0);
        Check.due("no sights", x.told(5), 0);
        Check.due("all fit", x.clerks(3, -1), 93);
    }

    private static void clerks() {
        AbbeyNotes x = new AbbeyNotes();
        Check.due("clerks low", x.clerks(-1, -1), Check.OUTSIDE);
        Check.due("clerks high", x.clerks(4, -1), Check.OUTSIDE);
        Check.due("outside ahead of none", x.clerks(4, -9), Check.OUTSIDE);
        int[] many = {1, 9, 37, 93};
        for (int d = 0; d <= 3; d++) {
            Check.due("how many", x.clerks(d, -1), many[d]);
            Check.due("the first", x.clerks(d, 0), 0);
            Check.due("past the last", x.clerks(d, many[d]), Check.NONE);
            Check.due("below", x.clerks(d, -2), Check.NONE);
            Check.due("far below", x.clerks(d, Integer.MIN_VALUE), Check.NONE);
            Check.due("far past", x.clerks(d, Integer.MAX_VALUE), Check.NONE);
        }
        Check.due("rising", x.clerks(2, 3), 3);
        Check.due("the last", x.clerks(2, 36), 192);
        x.seen(7, 2, 0);
        Check.due("one of three", x.clerks(1, -1), 3);
        Check.due("one of three, last", x.clerks(1, 2), 4);
        Check.due("one of three, and others", x.clerks(2, 3), 9);
        x.seen(6, 2, 1);
        Check.due("it is the first", x.clerks(1, -1), 1);
        Check.due("it is the first", x.clerks(1, 0), 1);
        x.seen(0, 1, 1);
        Check.due("of none one at least", x.clerks(3, -1), 0);
        Check.due("none to tell", x.clerks(3, 0), Check.NONE);
        x.forget();
        x.seen(15, 3, 1);
        Check.due("three at least", x.clerks(1, -1), 9);
        x.forget();
        x.seen(1, 0, 1);
        Check.due("none at least", x.clerks(1, -1), 9);
        x.forget();
        x.seen(3, 3, 0);
        Check.due("more than there are", x.clerks(3, -1), 0);
        x.forget();
        x.seen(0, 0, 0);
        Check.due("none of none", x.clerks(3, -1), 93);
        Check.due("none of one", x.seen(4, 0, 0), 2);
        Check.due("it is that one", x.clerks(1, 0), 4);
    }

    private static void count() {
        AbbeyNotes x = new AbbeyNotes();
        int[][] out = {{-1, 0}, {4, 0}, {0, -1}, {0, 2}};
        for (int[] o : out) {
            Check.due("count outside", x.count(o[0], o[1]), Check.OUTSIDE);
        }
        Check.due("any chest", x.count(3, 0), 0);
        Check.due("64 of 93 are without it", x.count(3, 1), 64);
        Check.due("nothing to learn", x.count(0, 1), 1);
        x.seen(224, 2, 0);
        Check.due("one of three", x.count(1, 0), 5);
        Check.due("two are left", x.count(1, 1), 2);
        x.seen(192, 1, 0);
        Check.due("one of two", x.count(1, 0), 6);
        Check.due("one is left", x.count(1, 1), 1);
        x.seen(192, 2, 1);
        Check.due("no set fits", x.count(1, 0), Check.NONE);
        x.forget();
        x.seen(3, 1, 0);
        x.seen(1, 1, 0);
        x.seen(6, 0, 0);
        Check.due("certain ones do not help", x.count(3, 0), 3);
        x.forget();
        x.seen(6, 1, 0);
        Check.due("chest 1 halves them", x.count(1, 0), 1);
        Check.due("chest 1 halves them", x.count(1, 1), 1);
        x.seen(6, 2, 0);
        Check.due("no set fits", x.count(1, 0), Check.NONE);
        Check.due("no set fits", x.count(1, 1), Check.NONE);
        Check.due("outside ahead of none", x.count(1, 2), Check.OUTSIDE);
    }

    private static void year() {
        AbbeyNotes x = new AbbeyNotes();
        int[][] out = {{-1, 1, 0}, {10000, 1, 0}, {0, 0, 0}, {0, 100, 0}, {0, 1, -1}, {0, 1, 3}, {Integer.MIN_VALUE, 1, 0},
            {0, Integer.MAX_VALUE, 0}};
        for (int[] o : out) {
            Check.due("year outside", x.year(o[0], o[1], o[2]), Check.OUTSIDE);
        }
        // Seed 1: 149 prints 4 hundreds, by 11249 F buys LOT 2, by 57305 6 hundreds are forged for him,
        // by 38044 E changes 10, 35283 prints 7 hundreds.
        String before = Check.all(x);
        int[] notes = {1000, 900, 1500, 1500, 2200};
        int[] rate = {80, 77, 46, 46, 31};
        for (int m = 1; m <= 5; m++) {
            Check.due("notes of year 1", x.year(1, m, 0), notes[m - 1]);
            Check.due("rate of year 1", x.year(1, m, 1), rate[m - 1]);
            Check.due("lots of year 1", x.year(1, m, 2), m == 1 ? 8 : 7);
        }
        Check.due("the least seed", x.year(0, 1, 0), 600);
        Check.due("the most acts, the greatest seed", x.year(9999, 99, 1) >= 0 ? 1 : 0, 1);
        for (int seed = 0; seed <= 9999; seed += 7) {
            Years.followed(new AbbeyNotes(), seed, 1 + seed % 85);
        }
        Check.same("nothing is done in fact", Check.all(x), before);
        x.one(0, 9999, 0);
        x.lot(6, 1, 2);
        x.set(0, 3000);
        x.owe(4, 1, 300);
        Years.followed(x, 4242, 85);
        Check.say(x, "A>A");
        Years.followed(x, 77, 40);
        lotsOfAYear();
    }

    /** LOTS are told by how many there are, whichever they are: by seed 0 C changes 20 (74), nothing is bought. */
    private static void lotsOfAYear() {
        AbbeyNotes x = new AbbeyNotes();
        for (int lot = 7; lot >= 0; lot--) {
            Check.due("lots of a year without a purchase", x.year(0, 1, 2), lot + 1);
            x.lot(lot, 1 + lot, lot % 6);
        }
        Check.due("no lots of a year", x.year(0, 1, 2), 0);
        x.lot(5, 999, -1);
        Check.due("one lot alone is left", x.year(0, 1, 2), 1);
    }

    private static void images() {
        AbbeyNotes x = new AbbeyNotes();
        int[] out = {-1, 2, Integer.MIN_VALUE, Integer.MAX_VALUE};
        for (int k : out) {
            Check.due("image outside", x.image(k), Check.OUTSIDE);
            Check.due("restore outside", x.restore(k), Check.OUTSIDE);
        }
        Check.due("not kept", x.restore(0), Check.STATE);
        Check.due("not kept", x.restore(1), Check.STATE);
        Check.due("kept new", x.image(1), 1);
        Check.due("the other is not kept", x.restore(0), Check.STATE);
        String fresh = Check.all(x);
        x.seen(3, 1, 0);
        x.owe(1, 2, 33);
        x.lot(5, 77, 4);
        Check.say(x, "+9A@3A$0!B1.A/2");
        x.done();
        Check.due("kept", x.image(0), 1);
        String kept = Check.all(x);
        x.forget();
        x.seen(1, 0, 1);
        x.seen(2, 1, 1);
        x.one(2, 5, 6);
        x.owe(1, 2, 0);
        x.owe(5, 4, 7);
        x.lot(0, 9, -1);
        x.set(0, 4);
        x.set(1, 5);
        Check.say(x, "..");
        x.done();
        Check.due("restored", x.restore(0), 1);
        Check.same("all is as kept", Check.all(x), kept);
        Check.due("sights as kept", x.clerks(1, -1), 2);
        Check.due("sights as kept", x.clerks(1, 1), 2);
        x.one(0, 1, 1);
        x.set(0, 77);
        Check.due("restored once more", x.restore(0), 1);
        Check.same("an image is not used up", Check.all(x), kept);
        Check.say(x, "+1.");
        Check.due("restored new", x.restore(1), 1);
        Check.due("the pad stays", x.told(0), 3);
        Check.due("and its text", x.total(0), 700);
        x.wipe();
        Check.same("all is new", Check.all(x), fresh);
        Check.due("no sights", x.told(5), 0);
        x.one(0, 8, 8);
        Check.due("kept over", x.image(1), 1);
        x.one(0, 9, 9);
        x.restore(1);
        Check.due("the later image", x.told(10), 8);
    }

    private static void told() {
        AbbeyNotes x = new AbbeyNotes();
        int value = 0;
        for (int i = 0; i < 6; i++) {
            x.one(i, 200 + i, 300 + i);
            for (int k = 0; k < 6; k++) {
                x.owe(i, k, 500 + ++value);
            }
        }
        for (int lot = 0; lot < 8; lot++) {
            x.lot(lot, 401 + lot, lot % 7 - 1);
        }
        x.set(0, 11);
        x.set(1, 22);
        x.seen(1, 1, 1);
        Check.say(x, "..");
        int[] all = {2, 11, 22, 0, 0, 1, 11 + 1215, 401 + 408, 65};
        for (int what = 0; what < 9; what++) {
            Check.due("told " + what, x.told(what), all[what]);
        }
        for (int i = 0; i < 6; i++) {
            Check.due("told paper", x.told(10 + 10 * i), 200 + i);
            Check.due("told coin", x.told(11 + 10 * i), 300 + i);
            Check.due("told lots", x.told(12 + 10 * i), 2 << i);
            for (int k = 0; k < 6; k++) {
                Check.due("told debt", x.told(200 + 10 * i + k), i == k ? 0 : 501 + 6 * i + k);
            }
        }
        for (int lot = 0; lot < 8; lot++) {
            Check.due("told price", x.told(100 + 10 * lot), 401 + lot);
            Check.due("told whose", x.told(101 + 10 * lot), lot % 7 == 0 ? Check.NONE : lot % 7 - 1);
        }
        Check.due("told least", x.told(Integer.MIN_VALUE), Check.OUTSIDE);
        Check.due("told most", x.told(Integer.MAX_VALUE), Check.OUTSIDE);
    }
}
