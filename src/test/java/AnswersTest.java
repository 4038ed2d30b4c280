/** What each call of the first two parts answers, and just what it changes: all that told() tells is held against before. */
public final class AnswersTest {
    public static void main(String[] args) {
        oneTellsBoth();
        oweTellsWhichItWas();
        lotTellsThePrice();
        setTellsWhichItWas();
        sayTellsHowMany();
        wipeLeavesTheRest();
        faultTellsAlone();
        forgedStays();
        rateInCoin();
        askingChangesNothing();
        monthsInAllAreRefusedLikewise();
        fellIsRefusedLikewise();
        doneIsSoThen();
        toldNumbersOfAll();
        oneActAtATime();
        Check.finish("AnswersTest");
    }

    /** The numbers that told() answers otherwise than before, each with a space behind it. */
    private static String changed(String before, AbbeyNotes x) {
        String[] was = before.split(" ");
        String[] is = Check.all(x).split(" ");
        StringBuilder row = new StringBuilder();
        int place = 0;
        for (int what = 0; what < 260; what++) {
            if (Check.isTold(what)) {
                if (!was[place].equals(is[place])) {
                    row.append(what).append(' ');
                }
                place++;
            }
        }
        return row.toString();
    }

    private static void oneTellsBoth() {
        Check.sentence("PAPER and COIN of a ONE: 10000 times the PAPER he had, and the COIN. UNKNOWN; OUTSIDE");
        for (int i = 0; i < 6; i++) {
            AbbeyNotes x = Scene.make();
            x.set(0, 0);
            int had = 10000 * x.told(10 + 10 * i) + x.told(11 + 10 * i);
            String before = Check.all(x);
            Check.due("what he had", x.one(i, 1234, 4321), had);
            // NOTES and RATE go with his PAPER.
            Check.same("his alone", changed(before, x), "6 8 " + (10 + 10 * i) + " " + (11 + 10 * i) + " ");
            Check.due("what he has now", x.one(i, 0, 0), 12344321);
        }
        AbbeyNotes y = new AbbeyNotes();
        Check.say(y, "+9A@7A/3");
        y.done();
        // 800 by 1500 is 53: 30 PAPER are worth 15.
        Check.due("what he has by ACTS", y.one(0, 5, 6), 7700115);
        Check.due("no such ONE", y.one(6, 5, 6), Check.UNKNOWN);
        Check.due("too much", y.one(0, 5, 10000), Check.OUTSIDE);
    }

    private static void oweTellsWhichItWas() {
        Check.sentence("What a ONE OWES another one: which it was");
        AbbeyNotes x = Scene.make();
        String before = Check.all(x);
        Check.due("which it was", x.owe(2, 3, 700), 52);
        Check.same("this debt alone", changed(before, x), "223 ");
        Check.due("which it is", x.owe(2, 3, 52), 700);
        Check.same("as before", changed(before, x), "");
        x.wipe();
        x.one(2, 40, 0);
        Check.say(x, "C>D");
        Check.due("paid in part", x.done(), 1);
        Check.due("the rest", x.owe(2, 3, 0), 12);
        Check.due("nothing", x.owe(2, 3, 0), 0);
    }

    private static void lotTellsThePrice() {
        Check.sentence("PRICE of a LOT, and whose it is (-1: the STATE's): which PRICE it was");
        AbbeyNotes x = Scene.make();
        x.set(0, 0);
        String before = Check.all(x);
        Check.due("B's LOT 2 at another PRICE", x.lot(2, 500, 1), 22);
        Check.same("the PRICE alone", changed(before, x), "120 ");
        Check.due("B's LOT 2 is C's", x.lot(2, 22, 2), 500);
        Check.same("whose alone, and nobody pays", changed(before, x), "22 32 121 ");
        Check.due("C's LOT 2 is the STATE's", x.lot(2, 22, -1), 22);
        // NOTES are 1124: by 120 of LAND RATE is 10, by 142 it is 12.
        Check.same("it is LAND, nothing is BURNT", changed(before, x), "7 8 22 121 ");
        Check.due("the STATE's LOT 7 is E's", x.lot(7, 100, 4), 100);
        Check.due("it is no LAND", x.told(7), 42);
        Check.due("nothing is BURNT by it", x.told(3), 100);
        x.wipe();
        x.lot(7, 8, -1);
        Check.say(x, "E$7");
        x.done();
        Check.due("the PRICE of a LOT that was bought", x.lot(7, 9, 4), 8);
    }

    private static void setTellsWhichItWas() {
        Check.sentence("PAPER that the STATE has (which = 0), FORGED (1): which it was. OUTSIDE");
        AbbeyNotes x = Scene.make();
        String before = Check.all(x);
        Check.due("PAPER of the STATE", x.set(0, 99999), 5000);
        Check.same("NOTES and RATE go with it", changed(before, x), "1 6 8 ");
        Check.due("once more", x.set(0, 5000), 99999);
        Check.due("FORGED", x.set(1, 99999), 600);
        Check.same("FORGED alone: nobody has it", changed(before, x), "2 ");
        Check.due("no third one", x.set(2, 0), Check.OUTSIDE);
        x.wipe();
        x.set(1, 0);
        Check.say(x, "+1!A2");
        x.done();
        Check.due("printed", x.set(0, 0), 5100);
        Check.due("forged", x.set(1, 0), 200);
    }

    private static void sayTellsHowMany() {
        Check.sentence("A sign more: how many. OUTSIDE; FULL");
        AbbeyNotes x = Scene.make();
        String before = Check.all(x);
        int signs = x.told(0);
        Check.due("a sign more", x.say('~'), signs + 1);
        Check.due("it can not stand there, yet it counts", x.fault(), signs);
        Check.due("the same once more", x.say('~'), signs + 2);
        Check.same("signs alone", changed(before, x), "0 ");
        Check.due("no sign", x.say(32), Check.OUTSIDE);
        Check.say(x, "~".repeat(58 - signs));
        Check.due("no room", x.say('~'), Check.FULL);
        Check.due("no sign, no room", x.say(127), Check.OUTSIDE);
        Check.same("signs alone still", changed(before, x), "0 ");
    }

    private static void wipeLeavesTheRest() {
        Check.sentence("Signs go: how many there were");
        AbbeyNotes x = Scene.make();
        String before = Check.all(x);
        Check.due("how many there were", x.wipe(), 9);
        Check.same("signs alone", changed(before, x), "0 ");
        Check.due("SIGHTS stay", x.forget(), 3);
    }

    private static void faultTellsAlone() {
        Check.sentence("THE FAULT; NONE");
        AbbeyNotes x = Scene.make();
        Check.due("none", x.fault(), Check.NONE);
        x.say('+');
        String before = Check.all(x);
        Check.due("more must come", x.fault(), 10);
        Check.due("asked again", x.fault(), 10);
        Check.same("nothing is changed", changed(before, x), "");
        x.say('5');
        Check.due("none again", x.fault(), Check.NONE);
        Check.anew(x, "A>A");
        Check.due("an ACT that can not be is no FAULT", x.fault(), Check.NONE);
    }

    private static void forgedStays() {
        Check.sentence("FORGED (0 at first, 99999 at the most) is what was forged");
        AbbeyNotes x = new AbbeyNotes();
        x.owe(0, 1, 300);
        Check.say(x, "!A9!B1");
        x.done();
        Check.due("what was forged", x.told(2), 1000);
        Check.say(x, "+5A@2.A$0A/4A>B");
        Check.due("nothing is taken from it by burning, changing, paying", x.total(4), 1000);
        x.done();
        Check.due("done", x.told(2), 1000);
        x.one(0, 0, 0);
        x.one(1, 0, 0);
        Check.due("whatever he has", x.told(2), 1000);
        Check.say(x, "!C1");
        Check.due("more", x.total(4), 1100);
    }

    private static void rateInCoin() {
        Check.sentence("RATE: what 100 PAPER is worth in COIN: 100 times LAND by NOTES, cut");
        for (int state : new int[] {0, 200, 233, 400, 1000, 1400, 5000, 19400, 39400, 99899}) {
            AbbeyNotes x = new AbbeyNotes();
            x.set(0, state);
            int rate = x.told(8);
            Check.due("RATE of " + state, rate, Math.min(100, 80000 / (600 + state)));
            // Two halves, each cut: what an odd RATE has more is lost.
            Check.say(x, "A/5A/5");
            Check.due("100 PAPER in COIN by " + state, x.behind(0, 1), 100 + rate / 2 * 2);
            Check.due("RATE is not moved by it", x.total(2), rate);
        }
    }

    private static void askingChangesNothing() {
        Check.sentence("Nothing is promised beyond the answers and state changes described above");
        AbbeyNotes x = Scene.make();
        for (int v = 0; v < 6; v++) {
            x.fault();
            x.judge(v % 3);
            x.behind(v, v % 4);
            x.total(v);
            x.fell(20 * v);
            x.struck(v % 2);
            x.prints(1 + v);
            x.buys(100 * v, v % 2);
            x.runs(1 + 500 * v, v, 1 + v);
            x.wages(123456789, v);
            x.change(v, v, v, v % 2, 0);
            x.sample(9, v, v, v, 1);
            x.clerks(v % 4, v - 1);
            x.count(v % 4, v % 2);
            x.year(v, 99, v % 3);
            x.told(v);
        }
        Check.same("all is as it was", Scene.look(x), Scene.look(Scene.make()));
    }

    private static void monthsInAllAreRefusedLikewise() {
        Check.sentence("TOTAL: NOTES (what = 0), LAND (1), RATE (2), BURNT (3), FORGED (4), months in all (5). "
            + "OUTSIDE; NO, STATE, likewise");
        AbbeyNotes x = new AbbeyNotes();
        Check.say(x, ".".repeat(60));
        x.done();
        Check.due("in all, no text", x.total(5), 60);
        Check.say(x, "..");
        Check.due("in all", x.total(5), 62);
        Check.due("OUTSIDE", x.total(6), Check.OUTSIDE);
        Check.say(x, "A");
        Check.due("OUTSIDE still", x.total(6), Check.OUTSIDE);
        Check.due("NO", x.total(5), Check.NO);
        Check.say(x, ">A");
        Check.due("STATE", x.total(5), Check.STATE);
        Check.anew(x, ".".repeat(40));
        Check.due("STATE, for it is month 99", x.total(5), Check.STATE);
    }

    private static void fellIsRefusedLikewise() {
        Check.sentence("FELL; NONE. OUTSIDE; NO, STATE, likewise");
        AbbeyNotes x = new AbbeyNotes();
        Check.say(x, "+9.");
        Check.due("FELL", x.fell(100), 0);
        Check.due("NONE", x.fell(53), Check.NONE);
        Check.due("OUTSIDE", x.fell(101), Check.OUTSIDE);
        Check.say(x, "+");
        Check.due("NO, though it fell ahead of the FAULT", x.fell(100), Check.NO);
        Check.say(x, "1B>B");
        Check.due("STATE, though it fell ahead of that ACT", x.fell(100), Check.STATE);
        Check.due("STATE, though it did not fall", x.fell(1), Check.STATE);
    }

    private static void doneIsSoThen() {
        Check.sentence("DONE: it is so then");
        AbbeyNotes x = Scene.make();
        String before = Check.all(x);
        // +1 B@2 . C>D: the STATE has 100 less, B 200 more, NOTES 100 more, a month; C has paid D his 52.
        Check.due("ACTS", x.done(), 4);
        Check.same("what the text tells, and the PAD", changed(before, x), "0 1 4 6 20 30 40 223 ");
        Check.due("B", x.told(20), 501);
        Check.due("C", x.told(30), 250);
        Check.due("D", x.told(40), 59);
        Check.due("the STATE", x.told(1), 4900);
        Check.due("months", x.told(4), 3);
        Check.due("SIGHTS stay", x.told(5), 3);
        x.restore(1);
        Check.due("IMAGES stay", x.told(40), 7);
    }

    private static void toldNumbersOfAll() {
        Check.sentence("0 signs, 1 PAPER of the STATE, 2 FORGED, 3 BURNT, 4 months, 5 SIGHTS, 6 NOTES, 7 LAND, 8 RATE");
        AbbeyNotes x = Scene.make();
        // NOTES: 5000, A 200 (100 BURNT for LOT 6), 301, 302, 7, 9, 305. LAND: LOTS 0 and 7.
        int[] all = {9, 5000, 600, 100, 2, 3, 6124, 120, 1};
        for (int what = 0; what <= 8; what++) {
            Check.due("told " + what, x.told(what), all[what]);
        }
        Check.due("there is no 9", x.told(9), Check.OUTSIDE);
    }

    /** The numbers that one ACT changes, done by itself. */
    private static void changesOf(String act, String numbers) {
        AbbeyNotes x = new AbbeyNotes();
        x.set(0, 2000);
        x.owe(1, 4, 30);
        String before = Check.all(x);
        Check.say(x, act);
        Check.due("done " + act, x.done(), 1);
        Check.same("changed by " + act, changed(before, x), numbers);
    }

    private static void oneActAtATime() {
        Check.sentence("MONTHS are a text on a PAD of up to 60 signs (codes 33 to 126) of ACTS");
        changesOf("+1", "1 6 8 ");
        changesOf("!C2", "2 6 8 30 ");
        changesOf("D$6", "3 6 7 8 40 42 161 ");
        changesOf("E/3", "1 50 51 ");
        changesOf("B>E", "20 50 214 ");
        changesOf("F@2", "1 60 ");
        changesOf(".", "4 ");
    }
}
