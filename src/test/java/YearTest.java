/** A YEAR's ACTS one kind at a time, over all seeds that draw it. */
public final class YearTest {
    private static final int SEEDS = 10000;

    public static void main(String[] args) {
        firstActOfAllSeeds();
        paidSoMany();
        changesSoMany();
        paysThatOne();
        forgedForHim();
        aMonthEnds();
        refused();
        Check.finish("YearTest");
    }

    private static int draw(int x) {
        return (75 * x + 74) % 65537;
    }

    private static int kind(int x) {
        return x / 6 % 8;
    }

    private static boolean buys(int x) {
        return kind(x) == 2 || kind(x) == 3;
    }

    /** 1 more than what x by 48 (cut) leaves over by 9. */
    private static int many(int x) {
        return 1 + x / 48 % 9;
    }

    /** All have the same PAPER, and OWE each other the same; the STATE has enough to pay the most. */
    private static AbbeyNotes people(int paper, int debt) {
        AbbeyNotes x = new AbbeyNotes();
        for (int i = 0; i < 6; i++) {
            x.one(i, paper, 100);
            for (int k = 0; k < 6; k++) {
                x.owe(i, k, debt);
            }
        }
        x.set(0, 950);
        return x;
    }

    /** Different PAPER and PRICES, so that who buys what is seen in NOTES. */
    private static AbbeyNotes different() {
        AbbeyNotes x = people(0, 0);
        for (int i = 0; i < 6; i++) {
            x.one(i, 70 + i, 100);
        }
        for (int lot = 0; lot < 8; lot++) {
            x.lot(lot, 65 + lot, -1);
        }
        return x;
    }

    private static void firstActOfAllSeeds() {
        Check.sentence("0 the STATE prints as many hundreds as 1 more than what x by 48 (cut) leaves over by 9, "
            + "1 he is paid so many, 2, 3 he buys LOT x by 48 (cut) left over by 8");
        AbbeyNotes x = different();
        int notes = x.told(6);
        int land = x.told(7);
        for (int seed = 0; seed < SEEDS; seed++) {
            if (seed % 100 == 0) {
                x = different();
            }
            int drawn = draw(seed);
            int price = 65 + drawn / 48 % 8;
            boolean bought = buys(drawn) && 70 + drawn % 6 >= price;
            boolean more = kind(drawn) == 0 || kind(drawn) == 6;
            int behind = notes + (more ? 100 * many(drawn) : 0) - (bought ? price : 0);
            int left = bought ? land - price : land;
            Check.due("NOTES by " + seed, x.year(seed, 1, 0), behind);
            Check.due("RATE by " + seed, x.year(seed, 1, 1), Math.min(100, 100 * left / behind));
            Check.due("LOTS by " + seed, x.year(seed, 1, 2), bought ? 7 : 8);
        }
    }

    /** Two ACTS: by the second a LOT is bought for all PAPER that the ONE has behind the first, but not for 1 more. */
    private static void hasBehindTheFirst(AbbeyNotes x, int seed, int paper) {
        int lot = draw(draw(seed)) / 48 % 8;
        x.lot(lot, paper, -1);
        Check.due("just enough by " + seed, x.year(seed, 2, 2), 7);
        x.lot(lot, paper + 1, -1);
        Check.due("just too little by " + seed, x.year(seed, 2, 2), 8);
    }

    private static void found(int seeds) {
        Check.due("seeds that draw it", seeds > 20 ? 1 : 0, 1);
    }

    private static void paidSoMany() {
        Check.sentence("1 he is paid so many");
        int seeds = 0;
        for (int seed = 0; seed < SEEDS; seed++) {
            int first = draw(seed);
            int second = draw(first);
            if (kind(first) == 1 && buys(second)) {
                AbbeyNotes x = people(50, 0);
                boolean same = first % 6 == second % 6;
                hasBehindTheFirst(x, seed, same ? 50 + 100 * many(first) : 50);
                x.set(0, 100 * many(first));
                hasBehindTheFirst(x, seed, same ? 50 + 100 * many(first) : 50);
                x.set(0, 100 * many(first) - 1);
                hasBehindTheFirst(x, seed, 50);
                seeds += same ? 1 : 0;
            }
        }
        found(seeds);
    }

    private static void changesSoMany() {
        Check.sentence("4 he changes as many tens as 1 more than what x by 48 (cut) leaves over by 9");
        int seeds = 0;
        for (int seed = 0; seed < SEEDS; seed++) {
            int first = draw(seed);
            int second = draw(first);
            if (kind(first) == 4 && buys(second)) {
                AbbeyNotes x = people(99, 0);
                boolean same = first % 6 == second % 6;
                hasBehindTheFirst(x, seed, same ? 99 - 10 * many(first) : 99);
                Check.due("the STATE has it by " + seed, x.year(seed, 1, 0), x.told(6));
                seeds += same ? 1 : 0;
            }
        }
        found(seeds);
    }

    private static void paysThatOne() {
        Check.sentence("5 he pays ONE x by 48 (cut) left over by 6");
        int seeds = 0;
        for (int seed = 0; seed < SEEDS; seed++) {
            int first = draw(seed);
            int second = draw(first);
            if (kind(first) == 5 && buys(second)) {
                int payer = first % 6;
                int paid = first / 48 % 6;
                int buyer = second % 6;
                int more = payer == paid ? 0 : buyer == payer ? -40 : buyer == paid ? 40 : 0;
                hasBehindTheFirst(people(99, 40), seed, 99 + more);
                seeds += more == 0 ? 0 : 1;
            }
        }
        found(seeds);
    }

    private static void forgedForHim() {
        Check.sentence("6 so many hundreds as in 0 are forged for him");
        int seeds = 0;
        for (int seed = 0; seed < SEEDS; seed++) {
            int first = draw(seed);
            int second = draw(first);
            if (kind(first) == 6 && buys(second)) {
                AbbeyNotes x = people(50, 0);
                boolean same = first % 6 == second % 6;
                hasBehindTheFirst(x, seed, same ? 50 + 100 * many(first) : 50);
                x.set(1, 100000 - 100 * many(first));
                hasBehindTheFirst(x, seed, 50);
                seeds += same ? 1 : 0;
            }
        }
        found(seeds);
    }

    /** A month that can not end is passed over, as any ACT: the rest of the YEAR is the same. */
    private static void aMonthEnds() {
        Check.sentence("7 a month ends; each if that can be");
        AbbeyNotes late = new AbbeyNotes();
        for (int months : new int[] {60, 39}) {
            Check.say(late, ".".repeat(months));
            late.done();
        }
        AbbeyNotes early = new AbbeyNotes();
        Check.due("month 99", late.told(4), 99);
        for (int seed = 0; seed < 100; seed++) {
            int what = seed % 3;
            Check.due("whatever month it is by " + seed, late.year(97 * seed, 99, what), early.year(97 * seed, 99, what));
        }
        Check.due("no month ended in fact", early.told(4), 0);
        int seeds = 0;
        for (int seed = 0; seed < SEEDS; seed++) {
            if (kind(draw(seed)) == 7 && buys(draw(draw(seed)))) {
                hasBehindTheFirst(people(99, 40), seed, 99);
                seeds++;
            }
        }
        found(seeds);
    }

    private static void refused() {
        Check.sentence("A YEAR: NOTES (what = 0), RATE (1), LOTS (2). OUTSIDE");
        AbbeyNotes x = new AbbeyNotes();
        int[][] out = {{-1, 1, 0}, {10000, 1, 0}, {0, 0, 0}, {0, 100, 0}, {0, 1, -1}, {0, 1, 3}};
        for (int[] o : out) {
            Check.due("year " + o[0] + " " + o[1] + " " + o[2], x.year(o[0], o[1], o[2]), Check.OUTSIDE);
        }
        for (int what = 0; what < 3; what++) {
            Check.due("the greatest numbers are taken", x.year(9999, 99, what) >= 0 ? 1 : 0, 1);
        }
    }
}
