/** A YEAR told as ACTS on another object, so that year() can be held against texts. */
final class Years {
    /** With more ACTS the other object would need more than its 512 calls. */
    static final int MOST_ACTS = 85;

    private Years() {
    }

    /** The YEAR is followed on a copy, those ACTS alone done that can be. */
    static void followed(AbbeyNotes x, int seed, int m) {
        AbbeyNotes y = copyOf(x);
        long draw = seed;
        for (int i = 0; i < m; i++) {
            draw = (75 * draw + 74) % 65537;
            char who = (char) ('A' + draw % 6);
            long rest = draw / 48;
            String[] acts = {"+" + (rest % 9 + 1), who + "@" + (rest % 9 + 1), who + "$" + rest % 8, who + "$" + rest % 8,
                who + "/" + (rest % 9 + 1), who + ">" + (char) ('A' + rest % 6), "!" + who + (rest % 9 + 1), "."};
            String act = acts[(int) (draw / 6 % 8)];
            for (int k = 0; k < act.length(); k++) {
                y.say(act.charAt(k));
            }
            if (y.done() < 0) {
                y.wipe();
            }
        }
        int lots = 0;
        for (int lot = 0; lot < 8; lot++) {
            lots += y.told(101 + 10 * lot) == Check.NONE ? 1 : 0;
        }
        Check.due("year's notes " + seed, x.year(seed, m, 0), y.told(6));
        Check.due("year's rate " + seed, x.year(seed, m, 1), y.told(8));
        Check.due("year's lots " + seed, x.year(seed, m, 2), lots);
    }

    private static AbbeyNotes copyOf(AbbeyNotes x) {
        AbbeyNotes y = new AbbeyNotes();
        y.set(0, x.told(1));
        y.set(1, x.told(2));
        for (int i = 0; i < 6; i++) {
            y.one(i, x.told(10 + 10 * i), x.told(11 + 10 * i));
            for (int k = 0; k < 6; k++) {
                y.owe(i, k, x.told(200 + 10 * i + k));
            }
        }
        for (int lot = 0; lot < 8; lot++) {
            y.lot(lot, x.told(100 + 10 * lot), Math.max(-1, x.told(101 + 10 * lot)));
        }
        return y;
    }
}
