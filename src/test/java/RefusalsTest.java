/** The order of refusals where several hold at once, and that nothing is changed by a refused call. */
public final class RefusalsTest {
    public static void main(String[] args) {
        unknownAheadOfOutside();
        outsideAheadOfNo();
        outsideAheadOfState();
        noAheadOfState();
        outsideAheadOfFull();
        outsideAheadOfNone();
        refusedMonthsChangeNothing();
        refusedForMoreSignsOrSights();
        refusedImageChangesNothing();
        aSignThatIsSaid();
        refusedFractions();
        Check.finish("RefusalsTest");
    }

    private static void unknownAheadOfOutside() {
        Check.sentence("the first of these that fits: UNKNOWN -1 (there is no such ONE, LOT, CHEST), OUTSIDE -2");
        AbbeyNotes x = Scene.make();
        Check.due("one(-1, -1, 0)", x.one(-1, -1, 0), Check.UNKNOWN);
        Check.due("one(6, 0, 10000)", x.one(6, 0, 10000), Check.UNKNOWN);
        Check.due("one(5, 0, 10000)", x.one(5, 0, 10000), Check.OUTSIDE);
        Check.sentence("UNKNOWN: both, both one; OUTSIDE");
        Check.due("owe(6, 0, 1000)", x.owe(6, 0, 1000), Check.UNKNOWN);
        Check.due("owe(0, -1, -1)", x.owe(0, -1, -1), Check.UNKNOWN);
        Check.due("owe(6, 6, 0)", x.owe(6, 6, 0), Check.UNKNOWN);
        for (int i = 0; i < 6; i++) {
            Check.due("owe himself", x.owe(i, i, 0), Check.UNKNOWN);
            Check.due("owe himself, too much", x.owe(i, i, 1000), Check.UNKNOWN);
        }
        Check.due("owe(0, 1, 1000)", x.owe(0, 1, 1000), Check.OUTSIDE);
        Check.sentence("UNKNOWN: the LOT, whose; OUTSIDE");
        Check.due("lot(8, 0, 0)", x.lot(8, 0, 0), Check.UNKNOWN);
        Check.due("lot(-1, 1000, -1)", x.lot(-1, 1000, -1), Check.UNKNOWN);
        Check.due("lot(0, 0, 6)", x.lot(0, 0, 6), Check.UNKNOWN);
        Check.due("lot(7, 1000, -2)", x.lot(7, 1000, -2), Check.UNKNOWN);
        Check.due("lot(7, 1000, -1)", x.lot(7, 1000, -1), Check.OUTSIDE);
        Check.sentence("UNKNOWN; OUTSIDE; NO, STATE, as of judge(2)");
        Check.due("behind(-1, -1)", x.behind(-1, -1), Check.UNKNOWN);
        Check.due("behind(6, 4)", x.behind(6, 4), Check.UNKNOWN);
        Check.due("behind(5, 4)", x.behind(5, 4), Check.OUTSIDE);
        Check.same("all is as it was", Scene.look(x), Scene.look(Scene.make()));
    }

    /** All refusals of numbers, whatever stands on the PAD. */
    private static void numbersFirst(String text) {
        AbbeyNotes x = new AbbeyNotes();
        Check.say(x, text);
        for (int v : new int[] {-1, 6, Integer.MIN_VALUE, Integer.MAX_VALUE}) {
            Check.due("judge " + v + " of " + text, x.judge(v), Check.OUTSIDE);
            Check.due("behind(" + v + ", 0) of " + text, x.behind(v, 0), Check.UNKNOWN);
            Check.due("behind(" + v + ", 4) of " + text, x.behind(v, 4), Check.UNKNOWN);
            Check.due("behind(0, " + v + ") of " + text, x.behind(0, v), Check.OUTSIDE);
            Check.due("total " + v + " of " + text, x.total(v), Check.OUTSIDE);
        }
        Check.due("judge 3 of " + text, x.judge(3), Check.OUTSIDE);
        Check.due("fell -1 of " + text, x.fell(-1), Check.OUTSIDE);
        Check.due("fell 101 of " + text, x.fell(101), Check.OUTSIDE);
    }

    private static void outsideAheadOfNo() {
        Check.sentence("OUTSIDE -2 (another number is not as told), NO -5 (as told)");
        numbersFirst("A");
        numbersFirst("+0");
    }

    private static void outsideAheadOfState() {
        Check.sentence("OUTSIDE -2 (another number is not as told), NO -5 (as told), STATE -3 (as told)");
        numbersFirst("A>A");
        Check.sentence("OUTSIDE; STATE: it was not");
        AbbeyNotes x = new AbbeyNotes();
        Check.due("restore(-1)", x.restore(-1), Check.OUTSIDE);
        Check.due("restore(2)", x.restore(2), Check.OUTSIDE);
        Check.due("restore(1)", x.restore(1), Check.STATE);
        Check.due("restore(0)", x.restore(0), Check.STATE);
    }

    private static void monthsAre(String text, int refusal) {
        AbbeyNotes x = new AbbeyNotes();
        Check.say(x, text);
        Check.due("judge(2) of " + text, x.judge(2), refusal);
        for (int what = 0; what < 6; what++) {
            Check.due("total of " + text, x.total(what), refusal);
        }
        for (int one = 0; one < 6; one++) {
            for (int what = 0; what < 4; what++) {
                Check.due("behind of " + text, x.behind(one, what), refusal);
            }
        }
        Check.due("fell(0) of " + text, x.fell(0), refusal);
        Check.due("fell(100) of " + text, x.fell(100), refusal);
        Check.due("done of " + text, x.done(), refusal);
    }

    private static void noAheadOfState() {
        Check.sentence("OUTSIDE; NO: there is a FAULT; STATE (2): some ACT can not be");
        String[] faulty = {"A", "A>AX", "A>A+", "A>A.A", ".A>A!", "+0", "G"};
        for (String text : faulty) {
            monthsAre(text, Check.NO);
            AbbeyNotes x = new AbbeyNotes();
            Check.say(x, text);
            Check.due("judge(0) of " + text, x.judge(0), Check.NO);
            Check.due("judge(1) of " + text, x.judge(1), Check.NO);
        }
        String[] impossible = {"A>A", "+1A@1A@1", "..B>A"};
        int[] act = {0, 2, 2};
        int[] why = {1, 3, 4};
        for (int i = 0; i < impossible.length; i++) {
            monthsAre(impossible[i], Check.STATE);
            AbbeyNotes x = new AbbeyNotes();
            Check.say(x, impossible[i]);
            Check.due("judge(0) is not refused: " + impossible[i], x.judge(0), act[i]);
            Check.due("judge(1) is not refused: " + impossible[i], x.judge(1), why[i]);
        }
    }

    private static void outsideAheadOfFull() {
        Check.sentence("STATE -3 (as told), FULL -4");
        AbbeyNotes x = new AbbeyNotes();
        Check.say(x, ".".repeat(60));
        Check.due("say(32), full", x.say(32), Check.OUTSIDE);
        Check.due("say(127), full", x.say(127), Check.OUTSIDE);
        Check.due("say(33), full", x.say(33), Check.FULL);
        Check.due("say(126), full", x.say(126), Check.FULL);
        for (int i = 0; i < 8; i++) {
            x.seen(255, 0, 1);
        }
        Check.due("seen(256, 0, 0), full", x.seen(256, 0, 0), Check.OUTSIDE);
        Check.due("seen(-1, 0, 0), full", x.seen(-1, 0, 0), Check.OUTSIDE);
        Check.due("seen(0, 9, 0), full", x.seen(0, 9, 0), Check.OUTSIDE);
        Check.due("seen(0, -1, 0), full", x.seen(0, -1, 0), Check.OUTSIDE);
        Check.due("seen(0, 0, 2), full", x.seen(0, 0, 2), Check.OUTSIDE);
        Check.due("seen(0, 0, -1), full", x.seen(0, 0, -1), Check.OUTSIDE);
        Check.due("seen(0, 0, 0), full", x.seen(0, 0, 0), Check.FULL);
        Check.due("seen(255, 8, 1), full", x.seen(255, 8, 1), Check.FULL);
    }

    /** NONE is no refusal: it is answered by a call whose numbers are as told. */
    private static void outsideAheadOfNone() {
        Check.sentence("What refused calls answer; NONE: there is none");
        AbbeyNotes x = new AbbeyNotes();
        x.seen(0, 8, 1);
        x.set(0, 99999);
        Check.due("clerks(4, -2)", x.clerks(4, -2), Check.OUTSIDE);
        Check.due("clerks(-1, 0)", x.clerks(-1, 0), Check.OUTSIDE);
        Check.due("clerks(3, -2)", x.clerks(3, -2), Check.NONE);
        Check.due("count(4, 0)", x.count(4, 0), Check.OUTSIDE);
        Check.due("count(3, 2)", x.count(3, 2), Check.OUTSIDE);
        Check.due("count(3, 1)", x.count(3, 1), Check.NONE);
        Check.due("prints(101)", x.prints(101), Check.OUTSIDE);
        Check.due("prints(100)", x.prints(100), Check.NONE);
        Check.due("runs(1, 0, 101)", x.runs(1, 0, 101), Check.OUTSIDE);
        Check.due("runs(1, 0, 100)", x.runs(1, 0, 100), Check.NONE);
        Check.due("fell(101)", x.fell(101), Check.OUTSIDE);
        Check.due("fell(100)", x.fell(100), Check.NONE);
    }

    private static void refusedMonthsChangeNothing() {
        Check.sentence("They change nothing");
        for (String more : new String[] {"A", "F>F", "A$0A$0", "+1+0"}) {
            AbbeyNotes x = Scene.make();
            AbbeyNotes y = Scene.make();
            Check.say(x, more);
            Check.say(y, more);
            Check.due("done behind " + more, x.done() < 0 ? 1 : 0, 1);
            x.judge(2);
            x.behind(0, 0);
            x.total(0);
            x.fell(50);
            Check.same("months refused, behind " + more, Scene.look(x), Scene.look(y));
        }
    }

    private static void refusedForMoreSignsOrSights() {
        Check.sentence("They change nothing");
        AbbeyNotes x = full();
        Check.due("a sign too many", x.say('+'), Check.FULL);
        Check.due("a SIGHT too many", x.seen(255, 0, 0), Check.FULL);
        Check.same("full", Scene.look(x), Scene.look(full()));
    }

    /** The scene with as many signs and SIGHTS as there can be. */
    private static AbbeyNotes full() {
        AbbeyNotes x = Scene.make();
        Check.say(x, ".".repeat(60 - x.told(0)));
        for (int i = x.told(5); i < 8; i++) {
            x.seen(255, 4, 1);
        }
        return x;
    }

    private static void refusedImageChangesNothing() {
        Check.sentence("They change nothing");
        AbbeyNotes x = new AbbeyNotes();
        x.one(0, 1, 2);
        x.seen(1, 1, 1);
        String before = Check.all(x);
        Check.due("restore(0), not kept", x.restore(0), Check.STATE);
        Check.due("restore(1), not kept", x.restore(1), Check.STATE);
        Check.due("image(2)", x.image(2), Check.OUTSIDE);
        Check.due("image(-1)", x.image(-1), Check.OUTSIDE);
        Check.due("still not kept", x.restore(0), Check.STATE);
        Check.due("still not kept", x.restore(1), Check.STATE);
        Check.same("nothing is restored", Check.all(x), before);
    }

    private static void aSignThatIsSaid() {
        Check.sentence("They change nothing (a sign that is said changes what fault() tells)");
        AbbeyNotes x = new AbbeyNotes();
        Check.due("no sign", x.fault(), Check.NONE);
        x.say('+');
        Check.due("one sign", x.fault(), 1);
        Check.due("refused", x.say(32), Check.OUTSIDE);
        Check.due("as before", x.fault(), 1);
        x.say('1');
        Check.due("two signs", x.fault(), Check.NONE);
        Check.due("refused", x.say(127), Check.OUTSIDE);
        Check.due("as before", x.fault(), Check.NONE);
        x.say('1');
        Check.due("three signs", x.fault(), 2);
    }

    private static void refusedFractions() {
        Check.sentence("refused with GONE and the refusal");
        AbbeyNotes x = new AbbeyNotes();
        for (int part = -1; part <= 2; part += 3) {
            Check.due("change by part " + part, x.change(10, 2, 3, 0, part), -1000000000000000002L);
            Check.due("whether by part " + part, x.change(10, 2, 3, 1, part), -1000000000000000002L);
            Check.due("sample by part " + part, x.sample(10, 2, 3, 1, part), -1000000000000000002L);
        }
        Check.sentence("What is told of fractions that are refused: GONE and the refusal");
        Check.due("GONE and OUTSIDE", AbbeyNotes.GONE + AbbeyNotes.OUTSIDE, -1000000000000000002L);
        Check.due("all numbers outside", x.change(-1, -1, -1, -1, -1), -1000000000000000002L);
        Check.due("all numbers outside", x.sample(-1, -1, -1, -1, -1), -1000000000000000002L);
    }
}
