/** Every number that a call takes: just too small, just inside, just too large, and those that would wrap into it. */
public final class NumbersTest {
    /** A call with all its numbers inside but one, which is told. */
    private interface Call {
        long with(AbbeyNotes x, int v);
    }

    public static void main(String[] args) {
        people();
        months();
        printing();
        fractions();
        forgers();
        Check.finish("NumbersTest");
    }

    private static void people() {
        Check.sentence("ONES 0 to 5 (A to F)");
        number("one(v, 1, 1)", 0, 5, Check.UNKNOWN, (x, v) -> x.one(v, 1, 1));
        number("owe(v, 0, 1)", 1, 5, Check.UNKNOWN, (x, v) -> x.owe(v, 0, 1));
        number("owe(v, 5, 1)", 0, 4, Check.UNKNOWN, (x, v) -> x.owe(v, 5, 1));
        number("owe(0, v, 1)", 1, 5, Check.UNKNOWN, (x, v) -> x.owe(0, v, 1));
        number("owe(5, v, 1)", 0, 4, Check.UNKNOWN, (x, v) -> x.owe(5, v, 1));
        Check.sentence("PAPER and COIN (0 to 9999 each; 100 and 100 at first)");
        number("one(0, v, 1)", 0, 9999, Check.OUTSIDE, (x, v) -> x.one(0, v, 1));
        number("one(0, 1, v)", 0, 9999, Check.OUTSIDE, (x, v) -> x.one(0, 1, v));
        number("one(5, v, 1)", 0, 9999, Check.OUTSIDE, (x, v) -> x.one(5, v, 1));
        number("one(5, 1, v)", 0, 9999, Check.OUTSIDE, (x, v) -> x.one(5, 1, v));
        Check.sentence("OWE each other ONE some PAPER (0 to 999 each; 0 at first)");
        number("owe(0, 5, v)", 0, 999, Check.OUTSIDE, (x, v) -> x.owe(0, 5, v));
        number("owe(5, 0, v)", 0, 999, Check.OUTSIDE, (x, v) -> x.owe(5, 0, v));
        Check.sentence("LOTS 0 to 7 of land each have a PRICE (1 to 999; 100 at first)");
        number("lot(v, 1, 0)", 0, 7, Check.UNKNOWN, (x, v) -> x.lot(v, 1, 0));
        number("lot(0, v, 0)", 1, 999, Check.OUTSIDE, (x, v) -> x.lot(0, v, 0));
        number("lot(7, v, -1)", 1, 999, Check.OUTSIDE, (x, v) -> x.lot(7, v, -1));
        Check.sentence("PRICE of a LOT, and whose it is (-1: the STATE's)");
        number("lot(0, 1, v)", -1, 5, Check.UNKNOWN, (x, v) -> x.lot(0, 1, v));
        Check.sentence("The STATE has PAPER, too (0 at first, 99999 at the most)");
        number("set(0, v)", 0, 99999, Check.OUTSIDE, (x, v) -> x.set(0, v));
        Check.sentence("FORGED (0 at first, 99999 at the most)");
        number("set(1, v)", 0, 99999, Check.OUTSIDE, (x, v) -> x.set(1, v));
        Check.sentence("PAPER that the STATE has (which = 0), FORGED (1)");
        number("set(v, 1)", 0, 1, Check.OUTSIDE, (x, v) -> x.set(v, 1));
        Check.sentence("a PAD of up to 60 signs (codes 33 to 126)");
        number("say(v)", 33, 126, Check.OUTSIDE, (x, v) -> x.say(v));
    }

    private static void months() {
        Check.sentence("JUDGED: the ACT (what = 0), why (1), months (2)");
        number("judge(v)", 0, 2, Check.OUTSIDE, (x, v) -> x.judge(v));
        Check.sentence("BEHIND: PAPER (what = 0), COIN (1), LOTS (2), OWES (3)");
        number("behind(v, 0)", 0, 5, Check.UNKNOWN, (x, v) -> x.behind(v, 0));
        number("behind(0, v)", 0, 3, Check.OUTSIDE, (x, v) -> x.behind(0, v));
        Check.sentence("TOTAL: NOTES (what = 0), LAND (1), RATE (2), BURNT (3), FORGED (4), months in all (5)");
        number("total(v)", 0, 5, Check.OUTSIDE, (x, v) -> x.total(v));
        Check.sentence("at the end of which RATE is below v (0 to 100)");
        number("fell(v)", 0, 100, Check.OUTSIDE, (x, v) -> x.fell(v));
        Check.sentence("STRUCK: payments (what = 0), how much (1). OUTSIDE");
        number("struck(v)", 0, 1, Check.OUTSIDE, (x, v) -> x.struck(v));
    }

    private static void printing() {
        Check.sentence("PRINTS; NONE. OUTSIDE");
        number("prints(v)", 1, 100, Check.OUTSIDE, (x, v) -> x.prints(v));
        Check.sentence("one who has v PAPER (0 to 9999)");
        number("buys(v, 0)", 0, 9999, Check.OUTSIDE, (x, v) -> x.buys(v, 0));
        number("buys(v, 1)", 0, 9999, Check.OUTSIDE, (x, v) -> x.buys(v, 1));
        Check.sentence("BUYS: how much (what = 0), which (1). OUTSIDE");
        number("buys(0, v)", 0, 1, Check.OUTSIDE, (x, v) -> x.buys(0, v));
        Check.sentence("NOTES are x (1 to 99999)");
        number("runs(v, 0, 1)", 1, 99999, Check.OUTSIDE, (x, v) -> x.runs(v, 0, 1));
        Check.sentence("each month g (0 to 99) of each hundred of them more are printed");
        number("runs(1, v, 1)", 0, 99, Check.OUTSIDE, (x, v) -> x.runs(1, v, 1));
        Check.sentence("RUNS; NONE. OUTSIDE");
        number("runs(1, 0, v)", 1, 100, Check.OUTSIDE, (x, v) -> x.runs(1, 0, v));
        Check.sentence("WAGES. OUTSIDE: prices 0 to 999999999, n");
        number("wages(v, 0)", 0, 999999999, Check.OUTSIDE, (x, v) -> x.wages(v, 0));
        number("wages(v, 8)", 0, 999999999, Check.OUTSIDE, (x, v) -> x.wages(v, 8));
        Check.sentence("the price n months (0 to 8) ahead of it");
        number("wages(0, v)", 0, 8, Check.OUTSIDE, (x, v) -> x.wages(0, v));
        number("wages(999999999, v)", 0, 8, Check.OUTSIDE, (x, v) -> x.wages(999999999, v));
    }

    private static void fractions() {
        long out = Check.GONE + Check.OUTSIDE;
        Check.sentence("one has 100 PAPER, the RATE is v (0 to 60)");
        number("change(v, 0, 0, 0, 0)", 0, 60, out, (x, v) -> x.change(v, 0, 0, 0, 0));
        number("change(v, 8, 10, 1, 1)", 0, 60, out, (x, v) -> x.change(v, 8, 10, 1, 1));
        Check.sentence("each of m months (0 to 8)");
        number("change(0, v, 0, 0, 0)", 0, 8, out, (x, v) -> x.change(0, v, 0, 0, 0));
        number("change(60, v, 10, 1, 1)", 0, 8, out, (x, v) -> x.change(60, v, 10, 1, 1));
        Check.sentence("it is 3 less with t tenths (0 to 10)");
        number("change(0, 0, v, 0, 0)", 0, 10, out, (x, v) -> x.change(0, 0, v, 0, 0));
        number("change(60, 8, v, 1, 1)", 0, 10, out, (x, v) -> x.change(60, 8, v, 1, 1));
        Check.sentence("CHANGE: the mean (what = 0), whether (1: 1, 0, be part 0 or 1). OUTSIDE");
        number("change(0, 0, 0, v, 0)", 0, 1, out, (x, v) -> x.change(0, 0, 0, v, 0));
        number("change(60, 8, 10, v, 1)", 0, 1, out, (x, v) -> x.change(60, 8, 10, v, 1));
        number("change(0, 0, 0, 0, v)", 0, 1, out, (x, v) -> x.change(0, 0, 0, 0, v));
        number("change(60, 8, 10, 1, v)", 0, 1, out, (x, v) -> x.change(60, 8, 10, 1, v));
        Check.sentence("SAMPLE. OUTSIDE");
        number("sample(v, 0, 0, 0, 0)", 1, 30, out, (x, v) -> x.sample(v, 0, 0, 0, 0));
        Check.sentence("f (0 to n) are forged");
        number("sample(1, v, 0, 0, 0)", 0, 1, out, (x, v) -> x.sample(1, v, 0, 0, 0));
        number("sample(30, v, 30, 30, 1)", 0, 30, out, (x, v) -> x.sample(30, v, 30, 30, 1));
        number("n too small for f: sample(v, 7, 0, 0, 0)", 7, 30, out, (x, v) -> x.sample(v, 7, 0, 0, 0));
        Check.sentence("k (0 to n) are drawn");
        number("sample(1, 0, v, 0, 0)", 0, 1, out, (x, v) -> x.sample(1, 0, v, 0, 0));
        number("sample(30, 30, v, 0, 1)", 0, 30, out, (x, v) -> x.sample(30, 30, v, 0, 1));
        number("n too small for k: sample(v, 0, 7, 0, 0)", 7, 30, out, (x, v) -> x.sample(v, 0, 7, 0, 0));
        Check.sentence("that j (0 to k) of them are");
        number("sample(30, 20, 0, v, 0)", 0, 0, out, (x, v) -> x.sample(30, 20, 0, v, 0));
        number("sample(30, 20, 10, v, 0)", 0, 10, out, (x, v) -> x.sample(30, 20, 10, v, 0));
        number("k too small for j: sample(30, 20, v, 7, 0)", 7, 30, out, (x, v) -> x.sample(30, 20, v, 7, 0));
        Check.sentence("Fractions are told in lowest terms by part: 0 the upper, 1 the lower number");
        number("sample(30, 20, 10, 5, v)", 0, 1, out, (x, v) -> x.sample(30, 20, 10, 5, v));
    }

    private static void forgers() {
        Check.sentence("OUTSIDE: the set 0 to 255, how many, how");
        number("seen(v, 0, 0)", 0, 255, Check.OUTSIDE, (x, v) -> x.seen(v, 0, 0));
        Check.sentence("of a set of chests so many (0 to 8) were burnt truly");
        number("seen(0, v, 0)", 0, 8, Check.OUTSIDE, (x, v) -> x.seen(0, v, 0));
        number("seen(255, v, 1)", 0, 8, Check.OUTSIDE, (x, v) -> x.seen(255, v, 1));
        Check.sentence("how 0: just so many, 1: so many at least");
        number("seen(1, 1, v)", 0, 1, Check.OUTSIDE, (x, v) -> x.seen(1, 1, v));
        Check.sentence("d of them (0 to 3) at the most did not");
        number("clerks(v, -1)", 0, 3, Check.OUTSIDE, (x, v) -> x.clerks(v, -1));
        number("clerks(v, 0)", 0, 3, Check.OUTSIDE, (x, v) -> x.clerks(v, 0));
        number("count(v, 0)", 0, 3, Check.OUTSIDE, (x, v) -> x.count(v, 0));
        Check.sentence("COUNT: the chest (what = 0), how many (1)");
        number("count(3, v)", 0, 1, Check.OUTSIDE, (x, v) -> x.count(3, v));
        Check.sentence("A YEAR by a seed (0 to 9999)");
        number("year(v, 1, 0)", 0, 9999, Check.OUTSIDE, (x, v) -> x.year(v, 1, 0));
        Check.sentence("of m ACTS (1 to 99)");
        number("year(0, v, 0)", 1, 99, Check.OUTSIDE, (x, v) -> x.year(0, v, 0));
        Check.sentence("A YEAR: NOTES (what = 0), RATE (1), LOTS (2). OUTSIDE");
        number("year(0, 1, v)", 0, 2, Check.OUTSIDE, (x, v) -> x.year(0, 1, v));
        Check.sentence("All but the PAD is kept in an IMAGE (0, 1): 1. OUTSIDE");
        number("image(v)", 0, 1, Check.OUTSIDE, (x, v) -> x.image(v));
        number("restore(v)", 0, 1, Check.OUTSIDE, (x, v) -> x.restore(v));
    }

    /** Inside the number is taken; outside it is refused, and all stays as it is. */
    private static void number(String call, int least, int most, long refusal, Call made) {
        for (int v : new int[] {least, Math.min(most, least + 1), least / 2 + most / 2, Math.max(least, most - 1), most}) {
            long got = made.with(Scene.make(), v);
            Check.due(call + " with v = " + v + " is taken", got >= 0 || got == Check.NONE ? 1 : 0, 1);
        }
        AbbeyNotes x = Scene.make();
        for (long v : beside(least, most)) {
            if (v < least || v > most) {
                Check.due(call + " with v = " + v, made.with(x, (int) v), refusal);
            }
        }
        Check.same(call + " changes nothing, refused", Scene.look(x), Scene.look(Scene.make()));
    }

    /** Just beyond both ends, the ends of int, and numbers that are inside if the upper bits are lost. */
    private static long[] beside(int least, int most) {
        return new long[] {least - 1L, most + 1L, Integer.MIN_VALUE, Integer.MAX_VALUE, Integer.MIN_VALUE + Math.abs(most),
            (byte) most - 256, least + 256L, most + 256L, least - 65536L, least + 65536L, most + 65536L, least | 1 << 30, ~most};
    }
}
