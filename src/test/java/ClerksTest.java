/** Chests, clerks and SIGHTS again: whole sentences of the document, held against all sets and against each look. */
public final class ClerksTest {
    public static void main(String[] args) {
        eightChests();
        aSightMore();
        allSightsAreSo();
        risingSets();
        dOrFewer();
        whetherTrulyOrNot();
        refused();
        Check.finish("ClerksTest");
    }

    private static void eightChests() {
        Check.sentence("CHESTS 0 to 7: eight clerks each burnt one chest, truly, or not");
        for (int chest = 0; chest < 8; chest++) {
            AbbeyNotes x = new AbbeyNotes();
            x.seen(1 << chest, 1, 0);
            Check.due("truly", x.clerks(1, -1), 8);
            for (int i = 0; i < 8; i++) {
                Check.due("not he", x.clerks(1, i) >> chest & 1, 0);
            }
            x.forget();
            x.seen(1 << chest, 0, 0);
            Check.due("or not", x.clerks(1, -1), 1);
            Check.due("it is he", x.clerks(1, 0), 1 << chest);
            x.seen(1 << chest, 1, 1);
            Check.due("not both", x.clerks(3, -1), 0);
        }
    }

    private static void aSightMore() {
        Check.sentence("A SIGHT more: how many");
        AbbeyNotes x = Scene.make();
        String before = Check.all(x);
        Check.due("the fourth", x.seen(7, 2, 0), 4);
        Check.due("the same once more", x.seen(7, 2, 0), 5);
        Check.due("one that can not be", x.seen(0, 8, 0), 6);
        Check.due("told", x.told(5), 6);
        Check.due("no set fits", x.clerks(3, -1), 0);
        Check.due("all go", x.forget(), 6);
        for (int i = 0; i < 3; i++) {
            x.seen(0, 0, 0);
        }
        Check.same("nothing but SIGHTS is changed", Check.all(x), before);
    }

    /** Eight SIGHTS, each of which alone rules out a set that all others leave. */
    private static void allSightsAreSo() {
        Check.sentence("CLERKS: sets of d or fewer that did not by which all SIGHTS are so: how many");
        for (int without = -1; without < 8; without++) {
            AbbeyNotes x = new AbbeyNotes();
            for (int chest = 0; chest < 8; chest++) {
                x.seen(chest == without ? 0 : 1 << chest, chest == without ? 0 : 1, chest % 2);
            }
            Check.due("all SIGHTS", x.told(5), 8);
            Check.due("without that of " + without, x.clerks(3, -1), without < 0 ? 1 : 2);
            Check.due("the first", x.clerks(3, 0), 0);
            Check.due("the second", x.clerks(3, 1), without < 0 ? Check.NONE : 1 << without);
        }
    }

    private static void risingSets() {
        Check.sentence("the i-th (as bits, rising)");
        int[][] sights = {{0, 0, 0}, {255, 5, 0}, {255, 6, 1}, {60, 2, 1}, {195, 3, 0}, {129, 1, 0}};
        for (int[] s : sights) {
            AbbeyNotes x = new AbbeyNotes();
            x.seen(s[0], s[1], s[2]);
            int i = 0;
            for (int set = 0; set < 256; set++) {
                int truly = Integer.bitCount(s[0] & ~set);
                if (Integer.bitCount(set) <= 3 && (s[2] == 0 ? truly == s[1] : truly >= s[1])) {
                    Check.due("the i-th " + i, x.clerks(3, i), set);
                    i++;
                }
            }
            Check.due("how many", x.clerks(3, -1), i);
            Check.due("no more", x.clerks(3, i), Check.NONE);
        }
    }

    private static void dOrFewer() {
        Check.sentence("sets of d or fewer that did not");
        AbbeyNotes x = new AbbeyNotes();
        x.seen(15, 3, 0);
        int[] many = {0, 4, 20, 44};
        for (int d = 0; d <= 3; d++) {
            Check.due("one of four chests, and others, by " + d, x.clerks(d, -1), many[d]);
        }
        Check.due("fewer than 3 are of 3, too", x.clerks(3, 0), 1);
    }

    /** Looks at each chest as both answers would have it, and takes the look back. */
    private static void whetherTrulyOrNot() {
        Check.sentence("COUNT: the chest to look at next, so that, whether it was burnt truly or not, "
            + "fewest sets are left at the most: the least; how many; NONE");
        int[][] sights = {{0, 0, 0}, {7, 2, 0}, {248, 3, 1}, {255, 6, 0}, {255, 5, 0}, {96, 1, 0}, {255, 0, 0}, {30, 1, 0}};
        for (int[] s : sights) {
            for (int d = 0; d <= 3; d++) {
                AbbeyNotes x = new AbbeyNotes();
                x.seen(s[0], s[1], s[2]);
                x.seen(65, 1, 1);
                x.image(0);
                int best = Check.NONE;
                int fewest = Check.NONE;
                for (int chest = 7; chest >= 0; chest--) {
                    int left = Math.max(leftBy(x, chest, 0, d), leftBy(x, chest, 1, d));
                    if (fewest == Check.NONE || left <= fewest) {
                        best = chest;
                        fewest = left;
                    }
                }
                boolean none = x.clerks(d, -1) == 0;
                Check.due("the chest by " + d, x.count(d, 0), none ? Check.NONE : best);
                Check.due("how many by " + d, x.count(d, 1), none ? Check.NONE : fewest);
                Check.due("SIGHTS stay", x.told(5), 2);
            }
        }
    }

    private static int leftBy(AbbeyNotes x, int chest, int truly, int d) {
        x.seen(1 << chest, truly, 0);
        int left = x.clerks(d, -1);
        x.restore(0);
        return left;
    }

    private static void refused() {
        Check.sentence("OUTSIDE: the set 0 to 255, how many, how; FULL");
        AbbeyNotes x = new AbbeyNotes();
        for (int i = 1; i <= 8; i++) {
            Check.due("OUTSIDE ahead of " + i, x.seen(256, 0, 0) + x.seen(0, 9, 0) + x.seen(0, 0, 2), 3 * Check.OUTSIDE);
            Check.due("as many as were taken", x.seen(i, 0, 1), i);
        }
        Check.due("FULL", x.seen(0, 0, 0), Check.FULL);
        Check.sentence("CLERKS: how many (i = -1), the i-th; NONE (i below -1, too). OUTSIDE: d");
        for (int d : new int[] {-1, 4}) {
            for (int i : new int[] {-2, -1, 0, 93}) {
                Check.due("clerks by " + d + " and " + i, x.clerks(d, i), Check.OUTSIDE);
            }
        }
        Check.sentence("COUNT: the chest (what = 0), how many (1); NONE: no set fits. OUTSIDE");
        Check.due("count by -1", x.count(-1, 0), Check.OUTSIDE);
        Check.due("count by 4", x.count(4, 1), Check.OUTSIDE);
        Check.due("no third answer", x.count(0, 2), Check.OUTSIDE);
    }
}
