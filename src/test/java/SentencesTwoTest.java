/** Part 2 of the document, a test for each sentence that names an edge: months, and debts struck off. */
public final class SentencesTwoTest {
    public static void main(String[] args) {
        judged();
        monthsThatEnded();
        behind();
        total();
        fellBelow();
        fellByMonthsOfTheText();
        fellBehindTheLastMonth();
        done();
        doneRefused();
        struckNothing();
        struckFewest();
        struckSums();
        struckNow();
        Check.finish("SentencesTwoTest");
    }

    private static void judged() {
        Check.sentence("JUDGED: the ACT (what = 0), why (1), months (2); NONE");
        AbbeyNotes x = new AbbeyNotes();
        Check.due("no text, the ACT", x.judge(0), Check.NONE);
        Check.due("no text, why", x.judge(1), Check.NONE);
        Check.due("no text, months", x.judge(2), 0);
        Check.say(x, "+1.");
        Check.due("all can be", x.judge(0), Check.NONE);
        Check.due("all can be, why", x.judge(1), Check.NONE);
        Check.due("a month", x.judge(2), 1);
        Check.say(x, "A@2");
        Check.due("the third can not", x.judge(0), 2);
        Check.due("too little", x.judge(1), 3);
        Check.due("months are refused", x.judge(2), Check.STATE);
        Check.due("the same once more", x.judge(0), 2);
        x.set(0, 100);
        Check.due("it can be now", x.judge(0), Check.NONE);
        Check.due("a month", x.judge(2), 1);
    }

    private static void monthsThatEnded() {
        Check.sentence("months that ended");
        AbbeyNotes x = new AbbeyNotes();
        Check.say(x, "+1");
        Check.due("none", x.judge(2), 0);
        x.wipe();
        Check.say(x, ".".repeat(60));
        Check.due("sixty", x.judge(2), 60);
        Check.due("in all", x.total(5), 60);
        x.done();
        Check.due("of the text, now empty", x.judge(2), 0);
        Check.due("in all", x.total(5), 60);
        Check.say(x, ".+1.");
        Check.due("of the text", x.judge(2), 2);
        Check.due("in all", x.total(5), 62);
    }

    private static void behind() {
        Check.sentence("BEHIND: of a ONE PAPER, COIN, LOTS (bits), what he OWES in all");
        for (int i = 0; i < 6; i++) {
            AbbeyNotes x = new AbbeyNotes();
            Check.due("no LOTS", x.behind(i, 2), 0);
            Check.due("OWES nothing", x.behind(i, 3), 0);
            x.one(i, 9999, 9999);
            for (int k = 0; k < 6; k++) {
                x.owe(i, k, 999);
                x.owe(k, i, 3);
            }
            Check.due("PAPER at the most", x.behind(i, 0), 9999);
            Check.due("COIN at the most", x.behind(i, 1), 9999);
            Check.due("OWES at the most", x.behind(i, 3), 4995);
            String text = "";
            for (int lot = 0; lot < 8; lot++) {
                text += (char) ('A' + i) + "$" + lot;
                Check.anew(x, text);
                Check.due("LOTS", x.behind(i, 2), (2 << lot) - 1);
                Check.due("PAPER", x.behind(i, 0), 9999 - 100 * (lot + 1));
            }
            Check.due("nothing is DONE yet", x.told(12 + 10 * i), 0);
            Check.due("nothing is DONE yet", x.told(10 + 10 * i), 9999);
        }
    }

    private static void total() {
        Check.sentence("TOTAL: NOTES, LAND, RATE, BURNT, FORGED, months");
        AbbeyNotes x = new AbbeyNotes();
        int[] none = {600, 800, 100, 0, 0, 0};
        for (int what = 0; what < 6; what++) {
            Check.due("no text " + what, x.total(what), none[what]);
        }
        Check.say(x, "+4!B3A$0.");
        int[] all = {1200, 700, 58, 100, 300, 1};
        for (int what = 0; what < 6; what++) {
            Check.due("behind the text " + what, x.total(what), all[what]);
        }
        x.done();
        for (int what = 0; what < 6; what++) {
            Check.due("done, no text " + what, x.total(what), all[what]);
        }
        Check.say(x, "B$1.!A1");
        int[] more = {1200, 600, 50, 200, 400, 2};
        for (int what = 0; what < 6; what++) {
            Check.due("what was and what is behind " + what, x.total(what), more[what]);
        }
    }

    private static void fellBelow() {
        Check.sentence("at the end of which RATE is below v (0 to 100); NONE");
        AbbeyNotes x = new AbbeyNotes();
        Check.say(x, ".+2.+1.+7.");
        // RATE at the ends: 100, 100 (800 by 800), 88, 50
        Check.due("below 100", x.fell(100), 2);
        Check.due("below 89", x.fell(89), 2);
        Check.due("below 88", x.fell(88), 3);
        Check.due("below 51", x.fell(51), 3);
        Check.due("below 50", x.fell(50), Check.NONE);
        Check.due("below 1", x.fell(1), Check.NONE);
        Check.due("below 0", x.fell(0), Check.NONE);
        for (int lot = 0; lot < 8; lot++) {
            x.lot(lot, 1, 0);
        }
        Check.due("RATE 0 is below 1", x.fell(1), 0);
        Check.due("nothing is below 0", x.fell(0), Check.NONE);
    }

    private static void fellByMonthsOfTheText() {
        Check.sentence("FELL: the first month of the text (from 0 on; those alone that end in the text, by a . ");
        AbbeyNotes x = new AbbeyNotes();
        Check.due("no text", x.fell(100), Check.NONE);
        Check.say(x, "..+9.");
        Check.due("the third one", x.fell(100), 2);
        x.done();
        Check.due("no text, though it is below", x.fell(100), Check.NONE);
        Check.say(x, ".");
        Check.due("the first one of this text", x.fell(100), 0);
        Check.due("not below 53", x.fell(53), Check.NONE);
        Check.due("below 54", x.fell(54), 0);
        AbbeyNotes y = new AbbeyNotes();
        Check.say(y, ".".repeat(57) + "+9.");
        Check.due("the last one of a full text", y.fell(100), 57);
    }

    private static void fellBehindTheLastMonth() {
        Check.sentence("what is done behind the last one is of none");
        AbbeyNotes x = new AbbeyNotes();
        Check.say(x, "+9");
        Check.due("no month ends", x.fell(100), Check.NONE);
        x.wipe();
        Check.say(x, "..+9");
        Check.due("behind the last month", x.fell(100), Check.NONE);
        x.say('.');
        Check.due("it ends", x.fell(100), 2);
    }

    private static void done() {
        Check.sentence("MONTHS are DONE (the PAD is empty then): ACTS");
        AbbeyNotes x = new AbbeyNotes();
        Check.due("no ACTS", x.done(), 0);
        Check.say(x, ".");
        Check.due("one", x.done(), 1);
        Check.due("the PAD", x.told(0), 0);
        Check.due("no ACTS", x.done(), 0);
        Check.due("not twice", x.told(4), 1);
        x.owe(3, 4, 250);
        Check.say(x, "+9A@3A$0A$1B/5!D2D>E.");
        int[] behind = new int[24];
        int[] total = new int[6];
        for (int i = 0; i < 24; i++) {
            behind[i] = x.behind(i / 4, i % 4);
        }
        for (int i = 0; i < 6; i++) {
            total[i] = x.total(i);
        }
        Check.due("eight", x.done(), 8);
        for (int i = 0; i < 24; i++) {
            Check.due("it is so then", x.behind(i / 4, i % 4), behind[i]);
        }
        for (int i = 0; i < 6; i++) {
            Check.due("it is so then", x.total(i), total[i]);
        }
        Check.due("A's PAPER", x.told(10), 200);
        Check.due("the STATE's PAPER", x.told(1), 650);
        Check.due("D OWES E nothing", x.told(234), 0);
        Check.due("E has it", x.told(50), 350);
        Check.say(x, ".".repeat(60));
        Check.due("sixty", x.done(), 60);
    }

    private static void doneRefused() {
        Check.sentence("MONTHS are DONE (the PAD is empty then): ACTS. NO, STATE, likewise");
        AbbeyNotes x = new AbbeyNotes();
        Check.say(x, ".+1A");
        String before = Check.all(x);
        Check.due("a FAULT", x.done(), Check.NO);
        Check.same("nothing is done", Check.all(x), before);
        Check.say(x, ">A");
        before = Check.all(x);
        Check.due("an ACT that can not be", x.done(), Check.STATE);
        Check.same("nothing is done", Check.all(x), before);
        Check.due("the PAD stays", x.wipe(), 6);
    }

    private static void struckNothing() {
        Check.sentence("(0: nobody owes)");
        AbbeyNotes x = new AbbeyNotes();
        Check.due("payments", x.struck(0), 0);
        Check.due("how much", x.struck(1), 0);
        for (int i = 0; i < 6; i++) {
            for (int k = 0; k < 6; k++) {
                x.owe(i, k, 999);
            }
        }
        Check.due("all owe all the same", x.struck(0), 0);
        Check.due("nothing is paid", x.struck(1), 0);
        AbbeyNotes y = new AbbeyNotes();
        for (int i = 0; i < 6; i++) {
            y.owe(i, (i + 1) % 6, 5);
        }
        Check.due("a ring", y.struck(0), 0);
        Check.due("a ring's sum", y.struck(1), 0);
    }

    private static void struckFewest() {
        Check.sentence("the fewest payments, each from one to another one of any sum, by which all is settled: how many");
        AbbeyNotes x = new AbbeyNotes();
        x.owe(0, 1, 1);
        Check.due("one debt", x.struck(0), 1);
        x.owe(1, 2, 1);
        Check.due("handed on", x.struck(0), 1);
        x.owe(1, 2, 2);
        Check.due("handed on, and one more", x.struck(0), 2);
        AbbeyNotes y = new AbbeyNotes();
        for (int i = 0; i < 5; i++) {
            y.owe(i, 5, 1 << i);
            Check.due("all to one", y.struck(0), i + 1);
        }
        AbbeyNotes z = new AbbeyNotes();
        int[] due = {-5, -5, -4, 7, 7};
        // A, B, C owe 5, 5, 4 by way of F to D and E: no part of them settles within itself.
        oweByF(z, due);
        Check.due("no group", z.struck(0), 4);
        oweByF(z, new int[] {-5, -3, -4, 8, 4});
        Check.due("two groups, 5 and 3 to 8, 4 to 4", z.struck(0), 3);
        oweByF(z, new int[] {-5, -3, -8, 8, 8});
        Check.due("two groups, 5 and 3 to 8, 8 to 8", z.struck(0), 3);
        oweByF(z, new int[] {-6, -2, 6, 2, 0});
        Check.due("two pairs", z.struck(0), 2);
        oweByF(z, new int[] {-6, -2, 5, 3, 0});
        Check.due("no pairs", z.struck(0), 3);
    }

    /** What is due to each of A to E, all of it by way of F. */
    private static void oweByF(AbbeyNotes x, int[] due) {
        for (int i = 0; i < 5; i++) {
            x.owe(i, 5, Math.max(0, -due[i]));
            x.owe(5, i, Math.max(0, due[i]));
        }
    }

    private static void struckSums() {
        Check.sentence("how much is paid in all, at the least");
        AbbeyNotes x = new AbbeyNotes();
        for (int i = 0; i < 3; i++) {
            for (int k = 3; k < 6; k++) {
                x.owe(i, k, 999);
            }
        }
        Check.due("all that can be owed one way", x.struck(1), 8991);
        Check.due("pairs", x.struck(0), 3);
        x.owe(3, 0, 1);
        Check.due("one less", x.struck(1), 8990);
        AbbeyNotes y = new AbbeyNotes();
        y.owe(0, 1, 70);
        y.owe(1, 0, 71);
        Check.due("the rest alone", y.struck(1), 1);
        Check.due("by one payment", y.struck(0), 1);
    }

    private static void struckNow() {
        Check.sentence("ONES settle what they OWE each other, all at once");
        AbbeyNotes x = new AbbeyNotes();
        x.owe(0, 1, 500);
        x.one(0, 0, 0);
        Check.due("whatever he has", x.struck(1), 500);
        x.one(0, 500, 0);
        Check.say(x, "A>B");
        Check.due("as it is now", x.struck(1), 500);
        Check.due("nothing is paid", x.told(201), 500);
        x.done();
        Check.due("paid", x.struck(0), 0);
        Check.due("paid", x.struck(1), 0);
    }
}
