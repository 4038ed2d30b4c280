/** Why an ACT can not be: each reason just not yet and just so, and the least one where several hold. */
public final class ReasonsTest {
    private static final String THREE = "3 he has too little PAPER ($, /), the STATE has (@)";
    private static final String FOUR = "4 he OWES that one nothing, or has no PAPER (>)";
    private static final String FIVE =
        "5 some ONE, the STATE would have more than is told above, or FORGED would be more (+, !, /, >, @)";

    public static void main(String[] args) {
        bothAreOne();
        notTheStates();
        tooLittleToBuy();
        tooLittleToChange();
        stateHasTooLittle();
        owesNothing();
        hasNoPaper();
        tooMuchPrinted();
        tooMuchForged();
        tooMuchChanged();
        tooMuchPaidBack();
        tooMuchPaid();
        buyingHasNoLimit();
        month99();
        theLeastReason();
        theFirstAct();
        Check.finish("ReasonsTest");
    }

    private static void can(AbbeyNotes x, String text) {
        Check.anew(x, text);
        Check.due("judge(0) of " + text, x.judge(0), Check.NONE);
        Check.due("judge(1) of " + text, x.judge(1), Check.NONE);
    }

    private static void cannot(AbbeyNotes x, String text, int act, int why) {
        Check.anew(x, text);
        Check.due("judge(0) of " + text, x.judge(0), act);
        Check.due("judge(1) of " + text, x.judge(1), why);
    }

    private static void bothAreOne() {
        Check.sentence("1 both are one (>)");
        AbbeyNotes x = new AbbeyNotes();
        for (char a = 'A'; a <= 'F'; a++) {
            cannot(x, a + ">" + a, 0, 1);
        }
        x.owe(0, 1, 1);
        can(x, "A>B");
    }

    private static void notTheStates() {
        Check.sentence("2 the LOT is not the STATE's ($)");
        AbbeyNotes x = new AbbeyNotes();
        for (int lot = 0; lot < 8; lot++) {
            can(x, "A$" + lot);
            x.lot(lot, 1, 0);
            cannot(x, "A$" + lot, 0, 2);
            x.lot(lot, 1, 5);
            cannot(x, "A$" + lot, 0, 2);
        }
        x.lot(7, 1, -1);
        cannot(x, "A$7A$7", 1, 2);
        cannot(x, "A$7B$7", 1, 2);
    }

    private static void tooLittleToBuy() {
        Check.sentence(THREE);
        AbbeyNotes x = new AbbeyNotes();
        for (int price : new int[] {1, 2, 100, 999}) {
            x.lot(4, price, -1);
            x.one(1, price, 0);
            can(x, "B$4");
            Check.due("all his PAPER", x.behind(1, 0), 0);
            x.one(1, price - 1, 9999);
            cannot(x, "B$4", 0, 3);
        }
    }

    private static void tooLittleToChange() {
        Check.sentence(THREE);
        for (int n = 1; n <= 9; n++) {
            AbbeyNotes x = new AbbeyNotes();
            x.one(2, 10 * n, 0);
            can(x, "C/" + n);
            Check.due("all his PAPER", x.behind(2, 0), 0);
            x.one(2, 10 * n - 1, 0);
            cannot(x, "C/" + n, 0, 3);
        }
    }

    private static void stateHasTooLittle() {
        Check.sentence(THREE);
        for (int n = 1; n <= 9; n++) {
            AbbeyNotes x = new AbbeyNotes();
            x.set(0, 100 * n);
            can(x, "D@" + n);
            x.done();
            Check.due("all its PAPER", x.told(1), 0);
            x.set(0, 100 * n - 1);
            cannot(x, "D@" + n, 0, 3);
        }
    }

    private static void owesNothing() {
        Check.sentence(FOUR);
        AbbeyNotes x = new AbbeyNotes();
        cannot(x, "A>B", 0, 4);
        x.owe(1, 0, 5);
        x.owe(0, 2, 5);
        cannot(x, "A>B", 0, 4);
        x.owe(0, 1, 1);
        can(x, "A>B");
        cannot(x, "A>BA>B", 1, 4);
    }

    private static void hasNoPaper() {
        Check.sentence(FOUR);
        AbbeyNotes x = new AbbeyNotes();
        x.owe(0, 1, 5);
        x.one(0, 0, 9999);
        cannot(x, "A>B", 0, 4);
        x.one(0, 1, 0);
        can(x, "A>B");
        Check.due("pays one", x.behind(1, 0), 101);
        Check.due("OWES the rest", x.behind(0, 3), 4);
    }

    private static void tooMuchPrinted() {
        Check.sentence(FIVE);
        for (int n = 1; n <= 9; n++) {
            AbbeyNotes x = new AbbeyNotes();
            x.set(0, 99999 - 100 * n);
            can(x, "+" + n);
            x.set(0, 100000 - 100 * n);
            cannot(x, "+" + n, 0, 5);
        }
    }

    private static void tooMuchForged() {
        Check.sentence(FIVE);
        for (int n = 1; n <= 9; n++) {
            AbbeyNotes x = new AbbeyNotes();
            x.one(3, 9999 - 100 * n, 0);
            x.set(1, 99999 - 100 * n);
            can(x, "!D" + n);
            Check.due("PAPER at the most", x.behind(3, 0), 9999);
            Check.due("FORGED at the most", x.total(4), 99999);
            x.one(3, 10000 - 100 * n, 0);
            cannot(x, "!D" + n, 0, 5);
            x.one(3, 0, 0);
            x.set(1, 100000 - 100 * n);
            cannot(x, "!D" + n, 0, 5);
        }
    }

    private static void tooMuchChanged() {
        Check.sentence(FIVE);
        for (int n = 1; n <= 9; n++) {
            AbbeyNotes x = new AbbeyNotes();
            x.one(4, 100, 9999 - 10 * n);
            can(x, "E/" + n);
            Check.due("COIN at the most", x.behind(4, 1), 9999);
            x.one(4, 100, 10000 - 10 * n);
            cannot(x, "E/" + n, 0, 5);
            x.one(4, 100, 9999);
            x.set(0, 99999 - 10 * n);
            can(x, "E/" + n);
            Check.due("worth nothing", x.behind(4, 1), 9999);
            x.set(0, 100000 - 10 * n);
            cannot(x, "E/" + n, 0, 5);
        }
    }

    private static void tooMuchPaidBack() {
        Check.sentence(FIVE);
        AbbeyNotes x = new AbbeyNotes();
        x.owe(0, 1, 30);
        x.one(1, 9969, 0);
        can(x, "A>B");
        Check.due("PAPER at the most", x.behind(1, 0), 9999);
        x.one(1, 9970, 0);
        cannot(x, "A>B", 0, 5);
        x.one(0, 29, 0);
        can(x, "A>B");
        Check.due("by as much as he has", x.behind(1, 0), 9999);
        x.one(1, 9999, 0);
        x.one(0, 1, 0);
        cannot(x, "A>B", 0, 5);
    }

    private static void tooMuchPaid() {
        Check.sentence(FIVE);
        for (int n = 1; n <= 9; n++) {
            AbbeyNotes x = new AbbeyNotes();
            x.set(0, 99999);
            x.one(5, 9999 - 100 * n, 9999);
            can(x, "F@" + n);
            Check.due("PAPER at the most", x.behind(5, 0), 9999);
            x.one(5, 10000 - 100 * n, 0);
            cannot(x, "F@" + n, 0, 5);
        }
    }

    /** Reason 5 is not for $: who buys has less then, and BURNT has no limit. */
    private static void buyingHasNoLimit() {
        Check.sentence(FIVE);
        AbbeyNotes x = new AbbeyNotes();
        x.one(0, 9999, 9999);
        x.set(0, 99999);
        x.set(1, 99999);
        can(x, "A$0A$1A$2A$3A$4A$5A$6A$7");
        Check.due("all LOTS", x.behind(0, 2), 255);
    }

    private static void month99() {
        Check.sentence("6 it is month 99 (.)");
        AbbeyNotes x = new AbbeyNotes();
        Check.say(x, ".".repeat(60));
        x.done();
        can(x, ".".repeat(39));
        Check.due("months in all", x.total(5), 99);
        cannot(x, ".".repeat(40), 39, 6);
        cannot(x, ".".repeat(39) + "+1.", 40, 6);
        Check.anew(x, ".".repeat(38));
        x.done();
        Check.due("month 98", x.told(4), 98);
        can(x, ".");
        cannot(x, "..", 1, 6);
        Check.anew(x, ".");
        x.done();
        Check.due("month 99", x.told(4), 99);
        cannot(x, ".", 0, 6);
        can(x, "+1");
    }

    private static void theLeastReason() {
        Check.sentence("An ACT can not be for the least of these reasons");
        AbbeyNotes x = new AbbeyNotes();
        x.one(0, 0, 0);
        cannot(x, "A>A", 0, 1);
        x.one(0, 9999, 9999);
        cannot(x, "A>A", 0, 1);
        x.one(0, 0, 0);
        x.lot(0, 999, 1);
        cannot(x, "A$0", 0, 2);
        x.lot(0, 999, 0);
        cannot(x, "A$0", 0, 2);
        x.one(1, 9, 9999);
        x.set(0, 99999);
        cannot(x, "B/1", 0, 3);
        x.one(1, 10, 9999);
        cannot(x, "B/1", 0, 5);
        x.one(2, 9999, 0);
        x.set(0, 99);
        cannot(x, "C@1", 0, 3);
        x.set(0, 100);
        cannot(x, "C@1", 0, 5);
        x.owe(0, 2, 9);
        cannot(x, "A>C", 0, 4);
        cannot(x, "B>C", 0, 4);
        x.one(0, 1, 0);
        cannot(x, "A>C", 0, 5);
    }

    private static void theFirstAct() {
        Check.sentence("JUDGED: the first ACT (from 0 on) that can not be, why");
        AbbeyNotes x = new AbbeyNotes();
        cannot(x, "A>AB>A", 0, 1);
        cannot(x, "B>AA>A", 0, 4);
        cannot(x, "+1A@1.!F2B/1F>F", 5, 1);
        cannot(x, ".".repeat(57) + "C@1", 57, 3);
        cannot(x, "+1".repeat(28) + "." + "D>D", 29, 1);
        cannot(x, "E$0E$1E$2", 1, 3);
        Check.due("nothing is done", x.done(), Check.STATE);
        Check.due("not even the first one", x.told(52), 0);
        Check.due("the PAD stays", x.told(0), 9);
    }
}
