/** Promises 9 to 14: months on the PAD, and debts struck off. */
public final class MonthsTest {
    public static void main(String[] args) {
        refusals();
        printing();
        paying();
        buying();
        changing();
        settling();
        forging();
        endingMonths();
        leastReasonFirst();
        fell();
        done();
        struck();
        Check.finish("MonthsTest");
    }

    /** The first ACT that can not be, and why. */
    private static void cannot(AbbeyNotes x, String text, int act, int why) {
        Check.anew(x, text);
        Check.due("judge(0) of " + text, x.judge(0), act);
        Check.due("judge(1) of " + text, x.judge(1), why);
        Check.due("judge(2) of " + text, x.judge(2), Check.STATE);
    }

    private static void can(AbbeyNotes x, String text, int months) {
        Check.anew(x, text);
        Check.due("judge(0) of " + text, x.judge(0), Check.NONE);
        Check.due("judge(1) of " + text, x.judge(1), Check.NONE);
        Check.due("judge(2) of " + text, x.judge(2), months);
    }

    private static void refusals() {
        String[] texts = {"A", "+0", "A>A", "+1"};
        int[] first = {Check.NO, Check.NO, 0, Check.NONE};
        int[] rest = {Check.NO, Check.NO, Check.STATE, 0};
        for (int i = 0; i < texts.length; i++) {
            String text = texts[i];
            AbbeyNotes x = new AbbeyNotes();
            Check.say(x, text);
            Check.due("judge low " + text, x.judge(-1), Check.OUTSIDE);
            Check.due("judge high " + text, x.judge(3), Check.OUTSIDE);
            Check.due("judge " + text, x.judge(0), first[i]);
            Check.due("judge months " + text, x.judge(2), rest[i]);
            Check.due("behind unknown " + text, x.behind(-1, 4), Check.UNKNOWN);
            Check.due("behind unknown " + text, x.behind(6, 0), Check.UNKNOWN);
            Check.due("behind low " + text, x.behind(0, -1), Check.OUTSIDE);
            Check.due("behind high " + text, x.behind(0, 4), Check.OUTSIDE);
            Check.due("total low " + text, x.total(-1), Check.OUTSIDE);
            Check.due("total high " + text, x.total(6), Check.OUTSIDE);
            Check.due("fell low " + text, x.fell(-1), Check.OUTSIDE);
            Check.due("fell high " + text, x.fell(101), Check.OUTSIDE);
            if (rest[i] != 0) {
                String before = Check.all(x);
                for (int what = 0; what < 4; what++) {
                    Check.due("behind " + text, x.behind(0, what), rest[i]);
                }
                for (int what = 0; what < 6; what++) {
                    Check.due("total " + text, x.total(what), rest[i]);
                }
                Check.due("fell " + text, x.fell(100), rest[i]);
                Check.due("done " + text, x.done(), rest[i]);
                Check.same("refused months change nothing", Check.all(x), before);
            }
        }
    }

    private static void printing() {
        AbbeyNotes x = new AbbeyNotes();
        can(x, "+3+9", 0);
        Check.due("printed notes", x.total(0), 1800);
        Check.due("printed rate", x.total(2), 44);
        Check.due("printed is not forged", x.total(4), 0);
        Check.due("nothing is done yet", x.told(1), 0);
        x.set(0, 99899);
        can(x, "+1", 0);
        cannot(x, "+1+1", 1, 5);
        x.set(0, 99900);
        cannot(x, "+1", 0, 5);
    }

    private static void paying() {
        AbbeyNotes x = new AbbeyNotes();
        x.set(0, 299);
        can(x, "D@2", 0);
        Check.due("paid", x.behind(3, 0), 300);
        Check.due("paid notes", x.total(0), 899);
        cannot(x, "D@3", 0, 3);
        x.set(0, 300);
        can(x, "D@3", 0);
        Check.due("paid all", x.behind(3, 0), 400);
        x.set(0, 299);
        cannot(x, "D@1D@2", 1, 3);
        x.one(3, 9799, 0);
        can(x, "D@2", 0);
        x.one(3, 9800, 0);
        cannot(x, "D@2", 0, 5);
    }

    private static void buying() {
        AbbeyNotes x = new AbbeyNotes();
        x.lot(3, 100, -1);
        can(x, "B$3", 0);
        Check.due("bought paper", x.behind(1, 0), 0);
        Check.due("bought coin", x.behind(1, 1), 100);
        Check.due("bought lots", x.behind(1, 2), 8);
        Check.due("bought burnt", x.total(3), 100);
        Check.due("bought land", x.total(1), 700);
        Check.due("bought notes", x.total(0), 500);
        x.lot(3, 101, -1);
        cannot(x, "B$3", 0, 3);
        x.lot(3, 5, 1);
        cannot(x, "B$3", 0, 2);
        x.one(1, 999, 0);
        can(x, "B$7B$0", 0);
        Check.due("bought all lots", x.behind(1, 2), 137);
        cannot(x, "B$7C$7", 1, 2);
    }

    private static void changing() {
        AbbeyNotes x = new AbbeyNotes();
        x.set(0, 1000);
        Check.due("rate", x.told(8), 50);
        can(x, "A/3", 0);
        Check.due("changed paper", x.behind(0, 0), 70);
        Check.due("changed coin", x.behind(0, 1), 115);
        Check.due("changed notes", x.total(0), 1600);
        x.set(0, 1077);
        Check.due("rate cut", x.told(8), 47);
        can(x, "A/9", 0);
        Check.due("worth cut", x.behind(0, 1), 142);
        cannot(x, "A/9A/2", 1, 3);
        can(x, "A/9A/1", 0);
        can(x, "A/9+9A/1", 0);
        Check.due("rate of the moment", x.behind(0, 1), 145);
        x.one(0, 90, 9957);
        can(x, "A/9", 0);
        x.one(0, 90, 9958);
        cannot(x, "A/9", 0, 5);
        x.one(0, 90, 0);
        x.set(0, 99909);
        can(x, "A/9", 0);
        Check.due("worth nothing", x.behind(0, 1), 0);
        x.set(0, 99910);
        cannot(x, "A/9", 0, 5);
    }

    private static void settling() {
        AbbeyNotes x = new AbbeyNotes();
        x.owe(0, 1, 70);
        x.owe(0, 2, 50);
        can(x, "A>BA>C", 0);
        Check.due("payer", x.behind(0, 0), 0);
        Check.due("payer owes", x.behind(0, 3), 20);
        Check.due("paid first", x.behind(1, 0), 170);
        Check.due("paid last", x.behind(2, 0), 130);
        cannot(x, "A>A", 0, 1);
        cannot(x, "B>A", 0, 4);
        x.owe(3, 0, 40);
        x.owe(3, 5, 2);
        can(x, "", 0);
        Check.due("owes in all", x.behind(3, 3), 42);
        x.owe(3, 0, 0);
        cannot(x, "A>BA>B", 1, 4);
        cannot(x, "A>BA>CA>C", 2, 4);
        x.one(1, 9929, 0);
        can(x, "A>B", 0);
        x.one(1, 9930, 0);
        cannot(x, "A>B", 0, 5);
        x.one(0, 69, 0);
        can(x, "A>B", 0);
        x.one(0, 0, 0);
        cannot(x, "A>B", 0, 4);
    }

    private static void forging() {
        AbbeyNotes x = new AbbeyNotes();
        can(x, "!F9!F2", 0);
        Check.due("forged paper", x.behind(5, 0), 1200);
        Check.due("forged", x.total(4), 1100);
        Check.due("forged notes", x.total(0), 1700);
        x.one(5, 9899, 0);
        can(x, "!F1", 0);
        x.one(5, 9900, 0);
        cannot(x, "!F1", 0, 5);
        x.set(1, 99899);
        can(x, "!A1", 0);
        x.set(1, 99900);
        cannot(x, "!A1", 0, 5);
    }

    private static void endingMonths() {
        AbbeyNotes x = new AbbeyNotes();
        String sixty = ".".repeat(60);
        can(x, sixty, 60);
        Check.due("sixty months", x.done(), 60);
        can(x, ".".repeat(39), 39);
        Check.due("months in all", x.total(5), 99);
        cannot(x, ".".repeat(40), 39, 6);
        Check.anew(x, ".".repeat(39));
        Check.due("the last months", x.done(), 39);
        Check.due("months", x.told(4), 99);
        cannot(x, ".", 0, 6);
        cannot(x, "+1.", 1, 6);
        can(x, "+1", 0);
    }

    private static void leastReasonFirst() {
        AbbeyNotes x = new AbbeyNotes();
        x.one(0, 0, 0);
        x.one(1, 9999, 9999);
        x.lot(0, 999, 2);
        cannot(x, "A>A", 0, 1);
        cannot(x, "A$0", 0, 2);
        cannot(x, "B@1", 0, 3);
        x.set(0, 99999);
        cannot(x, "A/9", 0, 3);
        x.owe(0, 1, 9);
        cannot(x, "A>B", 0, 4);
        cannot(x, "B@1", 0, 5);
        cannot(x, "+1A>A", 0, 5);
    }

    private static void fell() {
        AbbeyNotes x = new AbbeyNotes();
        Check.anew(x, ".+4.+6.+9");
        Check.due("rate behind", x.total(2), 32);
        Check.due("below 101", x.fell(101), Check.OUTSIDE);
        Check.due("below 100", x.fell(100), 1);
        Check.due("below 81", x.fell(81), 1);
        Check.due("below 80", x.fell(80), 2);
        Check.due("below 51", x.fell(51), 2);
        Check.due("below 50", x.fell(50), Check.NONE);
        Check.due("below 0", x.fell(0), Check.NONE);
        x.done();
        Check.anew(x, "..");
        Check.due("months of the text alone", x.fell(100), 0);
        Check.anew(x, "+9");
        Check.due("no month ends", x.fell(100), Check.NONE);
        x.wipe();
        Check.due("no text", x.fell(100), Check.NONE);
    }

    private static void done() {
        AbbeyNotes x = new AbbeyNotes();
        x.owe(2, 0, 30);
        Check.anew(x, "+5A@2B$4.!E1C>AD/2.");
        Check.due("done", x.done(), 8);
        Check.due("pad", x.told(0), 0);
        Check.due("state", x.told(1), 320);
        Check.due("forged", x.told(2), 100);
        Check.due("burnt", x.told(3), 100);
        Check.due("months", x.told(4), 2);
        Check.due("A", x.told(10), 330);
        Check.due("B", x.told(20), 0);
        Check.due("B's lots", x.told(22), 16);
        Check.due("C", x.told(30), 70);
        Check.due("C owes", x.told(220), 0);
        Check.due("D", x.told(40), 80);
        Check.due("D's coin", x.told(41), 112);
        Check.due("E", x.told(50), 200);
        Check.due("whose", x.told(141), 1);
        Check.due("nothing more", x.done(), 0);
        Check.anew(x, ".");
        Check.due("judge counts the text's months", x.judge(2), 1);
        Check.due("total counts all", x.total(5), 3);
    }

    private static void struck() {
        AbbeyNotes x = new AbbeyNotes();
        Check.due("struck low", x.struck(-1), Check.OUTSIDE);
        Check.due("struck high", x.struck(2), Check.OUTSIDE);
        int[][] debts = {{0, 1, 10}, {2, 3, 10}, {4, 5, 10}};
        for (int i = 0; i < debts.length; i++) {
            x.owe(debts[i][0], debts[i][1], debts[i][2]);
            Check.due("pairs", x.struck(0), i + 1);
            Check.due("pairs' sum", x.struck(1), 10 * (i + 1));
        }
        // A and D settle among themselves, and so do B, C and E; whoever pays by size first splits these groups.
        x.owe(5, 0, 4);
        Check.due("a chain", x.struck(0), 3);
        Check.due("a chain's sum", x.struck(1), 26);
        x.owe(1, 0, 6);
        Check.due("A is even", x.struck(0), 3);
        Check.due("A is even, sum", x.struck(1), 20);
        x.owe(1, 0, 900);
        Check.due("A is paid most", x.struck(1), 910);
        AbbeyNotes y = new AbbeyNotes();
        y.owe(0, 5, 6);
        y.owe(1, 5, 3);
        y.owe(2, 5, 4);
        y.owe(5, 3, 6);
        y.owe(5, 4, 7);
        Check.due("groups", y.struck(0), 3);
        Check.due("groups' sum", y.struck(1), 13);
        y.owe(2, 5, 5);
        Check.due("no more groups", y.struck(0), 4);
        Check.due("no more groups' sum", y.struck(1), 14);
        Check.anew(y, "A>F");
        Check.due("as things are, not behind the text", y.struck(1), 14);
        y.say('!');
        Check.due("a fault does not matter", y.struck(0), 4);
    }
}
