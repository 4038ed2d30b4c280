/** Promises 15 to 19: printing, buying, runaway notes, wages, changing. */
public final class PrintingTest {
    public static void main(String[] args) {
        prints();
        printsByTrial();
        buys();
        runs();
        wages();
        change();
        Check.finish("PrintingTest");
    }

    private static void ownAllLand(AbbeyNotes x) {
        for (int lot = 0; lot < 8; lot++) {
            x.lot(lot, 100, 0);
        }
    }

    private static void noPaper(AbbeyNotes x) {
        for (int i = 0; i < 6; i++) {
            x.one(i, 0, 0);
        }
    }

    private static void prints() {
        AbbeyNotes x = new AbbeyNotes();
        int[] out = {0, 101, -1, Integer.MIN_VALUE, Integer.MAX_VALUE};
        for (int v : out) {
            Check.due("prints outside", x.prints(v), Check.OUTSIDE);
        }
        Check.due("prints at par", x.prints(100), 2);
        Check.due("prints at 80", x.prints(80), 4);
        Check.due("prints at 79", x.prints(79), 4);
        Check.due("prints at 1", x.prints(1), 794);
        x.set(0, 200);
        Check.due("just none", x.prints(100), 0);
        x.set(0, 201);
        Check.due("not even none", x.prints(100), Check.NONE);
        x.set(0, 99999);
        Check.due("too many now", x.prints(1), Check.NONE);
        noPaper(x);
        x.set(0, 0);
        Check.due("no notes", x.prints(100), 8);
        ownAllLand(x);
        Check.due("no notes, no land", x.prints(100), 0);
        x.set(0, 1);
        Check.due("no land", x.prints(1), Check.NONE);
        for (int lot = 0; lot < 8; lot++) {
            x.lot(lot, 999, -1);
        }
        Check.due("999 at the most", x.prints(1), 999);
        x.set(0, 99999);
        Check.due("whatever room the state has", x.prints(2), 999);
        x.say('+');
        Check.due("whatever stands on the pad", x.prints(2), 999);
    }

    /** PRINTS for every v against RATE as told. */
    private static void printsByTrial() {
        AbbeyNotes x = new AbbeyNotes();
        x.lot(2, 377, -1);
        x.set(0, 123);
        int[] rates = new int[102];
        for (int h = 0; h <= 100; h++) {
            x.set(0, 123 + 100 * h);
            rates[h] = x.told(8);
        }
        x.set(0, 123);
        for (int v = 11; v <= 100; v++) {
            int most = Check.NONE;
            for (int h = 0; h <= 100; h++) {
                if (rates[h] >= v) {
                    most = h;
                }
            }
            Check.due("prints " + v, x.prints(v), most);
        }
    }

    private static void buys() {
        AbbeyNotes x = new AbbeyNotes();
        int[] out = {-1, 10000, Integer.MIN_VALUE, Integer.MAX_VALUE};
        for (int v : out) {
            Check.due("buys v outside", x.buys(v, 0), Check.OUTSIDE);
        }
        Check.due("buys low", x.buys(0, -1), Check.OUTSIDE);
        Check.due("buys high", x.buys(0, 2), Check.OUTSIDE);
        Check.due("one lot too dear", x.buys(99, 0), 0);
        Check.due("no set", x.buys(99, 1), 0);
        Check.due("least bits", x.buys(250, 1), 3);
        Check.due("the first lot", x.buys(100, 1), 1);
        Check.due("an empty purse", x.buys(0, 0), 0);
        Check.due("all", x.buys(9999, 1), 255);
        int[] price = {60, 50, 41, 33, 27, 19, 11, 7};
        for (int lot = 0; lot < 8; lot++) {
            x.lot(lot, price[lot], lot == 0 ? 3 : -1);
        }
        Check.due("of the state's alone", x.buys(60, 0), 60);
        Check.due("the least set", x.buys(60, 1), 8 + 16);
        Check.due("dearest first would miss it", x.buys(68, 0), 68);
        Check.due("which", x.buys(68, 1), 4 + 16);
        Check.due("bits", x.buys(188, 1), 254);
        ownAllLand(x);
        Check.due("nothing to buy", x.buys(9999, 0), 0);
        Check.due("nothing to buy, no set", x.buys(9999, 1), 0);
    }

    private static void runs() {
        AbbeyNotes x = new AbbeyNotes();
        int[][] out = {{0, 0, 1}, {100000, 0, 1}, {1, -1, 1}, {1, 100, 1}, {1, 0, 0}, {1, 0, 101}, {Integer.MIN_VALUE, 0, 1},
            {1, Integer.MAX_VALUE, 1}, {1, 0, Integer.MIN_VALUE}};
        for (int[] o : out) {
            Check.due("runs outside", x.runs(o[0], o[1], o[2]), Check.OUTSIDE);
        }
        Check.due("never", x.runs(800, 0, 100), Check.NONE);
        Check.due("at once", x.runs(801, 0, 100), 0);
        // 801: 99, +100; 901: 88, +1200; 2101: 38, +6200; 8301: 9
        Check.due("below 99", x.runs(801, 0, 99), 1);
        Check.due("below 88", x.runs(801, 0, 88), 2);
        Check.due("below 38", x.runs(801, 0, 38), 3);
        Check.due("below 9", x.runs(801, 0, 9), 4);
        // 890: 89, +1100; 1990: 40, +6000; 7990: 10, +9000; 16990: 4
        Check.due("below 11", x.runs(890, 0, 11), 2);
        Check.due("below 10", x.runs(890, 0, 10), 3);
        // 813: 98, +200; 1013: 78 (1012 would be 79)
        Check.due("just a hundred each", x.runs(813, 0, 79), 1);
        // 99 and 1 of each hundred: 0 more, cut; 250 and 1 of each hundred: 2 more, cut; 150 and 1: 1 more.
        Check.due("cut to nothing", x.runs(99, 1, 100), Check.NONE);
        // 51 of 199 is 101, 51 of 300 is 153, 51 of 453 is 231, 51 of 684 is 348: in whole hundreds alone it would be later.
        Check.due("of parts of a hundred, too", x.runs(199, 51, 100), 4);
        Check.due("the hundredth month", x.runs(lastStart(), 1, 100), 100);
        Check.due("past the hundredth month", x.runs(lastStart() - 1, 1, 100), Check.NONE);
        ownAllLand(x);
        Check.due("no land", x.runs(1, 0, 1), 0);
        for (int lot = 0; lot < 8; lot++) {
            x.lot(lot, 999, -1);
        }
        // 99999: 7, 208298: 3, 424213: 1, 854083: 0
        Check.due("all that can be", x.runs(99999, 99, 1), 3);
    }

    /** The month at the beginning of which notes that grow by g of each hundred, cut, are more than land. */
    private static int monthsTo(int notes, int g, int land) {
        int month = 0;
        while (notes <= land && month < 1000) {
            notes += notes * g / 100;
            month++;
        }
        return month;
    }

    /** The least number of notes that is above 800 at the beginning of month 100, with 1 of each hundred more. */
    private static int lastStart() {
        int start = 1;
        while (monthsTo(start, 1, 800) > 100) {
            start++;
        }
        return start;
    }

    private static void wages() {
        AbbeyNotes x = new AbbeyNotes();
        int[][] out = {{-1, 0}, {1000000000, 0}, {0, -1}, {0, 9}, {Integer.MIN_VALUE, 0}, {0, Integer.MAX_VALUE}};
        for (int[] o : out) {
            Check.due("wages outside", x.wages(o[0], o[1]), Check.OUTSIDE);
        }
        for (int n = 0; n <= 8; n++) {
            Check.due("a row that ends", x.wages(1, n), n == 0 ? 0 : 1);
            Check.due("a row that begins", x.wages(900000000, n), n == 0 ? 0 : 9);
        }
        Check.due("no prices", x.wages(0, 3), 0);
        Check.due("up and down by 1", x.wages(909090909, 1), 45);
        Check.due("up and down by 2", x.wages(909090909, 2), 9);
        Check.due("what is won does not count", x.wages(987654321, 1), 9);
        Check.due("leading noughts", x.wages(12345678, 1), 8);
        Check.due("by 8", x.wages(123456789, 8), 36 + 8);
    }

    private static void change() {
        AbbeyNotes x = new AbbeyNotes();
        int[][] out = {{-1, 0, 0, 0, 0}, {61, 0, 0, 0, 0}, {0, -1, 0, 0, 0}, {0, 9, 0, 0, 0}, {0, 0, -1, 0, 0}, {0, 0, 11, 0, 0},
            {0, 0, 0, -1, 0}, {0, 0, 0, 2, 0}, {0, 0, 0, 0, -1}, {0, 0, 0, 0, 2}, {0, 0, 0, 1, 2}, {Integer.MAX_VALUE, 0, 0, 0, 0}};
        for (int[] o : out) {
            Check.due("change outside", x.change(o[0], o[1], o[2], o[3], o[4]), Check.GONE + Check.OUTSIDE);
        }
        changeIs(x, 37, 0, 4, 37, 1, 1);
        changeIs(x, 0, 0, 10, 0, 1, 1);
        changeIs(x, 0, 3, 10, 0, 1, 1);
        // Waiting at 1: 3 tenths of 2 are 3/5, so he changes; at 0 he waits for 3/10.
        changeIs(x, 1, 1, 7, 1, 1, 1);
        changeIs(x, 0, 1, 7, 3, 10, 0);
        // Waiting at 3: with t 2 it is 8 tenths of 4, 16/5; with t 3 it is 7 tenths of 4, less than 3.
        changeIs(x, 3, 1, 2, 16, 5, 0);
        changeIs(x, 3, 1, 3, 3, 1, 1);
        // The same either way: at 1 with t 5, 0 and 2 are 1 in the mean.
        changeIs(x, 1, 1, 5, 1, 1, 1);
        // Two months at 0 with t 5: half of (1/2), half of 1 (at 1 it is the same): 3/4.
        changeIs(x, 0, 2, 5, 3, 4, 0);
        changeIs(x, 0, 0, 5, 0, 1, 1);
        changeIs(x, 3, 1, 10, 3, 1, 1);
        changeIs(x, 60, 8, 0, 68, 1, 0);
        changeIs(x, 60, 8, 10, 60, 1, 1);
    }

    private static void changeIs(AbbeyNotes x, int v, int m, int t, long upper, long lower, long whether) {
        String call = "change " + v + " " + m + " " + t;
        Check.due(call + " upper", x.change(v, m, t, 0, 0), upper);
        Check.due(call + " lower", x.change(v, m, t, 0, 1), lower);
        Check.due(call + " whether", x.change(v, m, t, 1, 0), whether);
        Check.due(call + " whether, part 1", x.change(v, m, t, 1, 1), whether);
    }
}
