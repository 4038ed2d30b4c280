/** Part 1 of the document, a test for each sentence that names an edge: people, land, the state, the PAD, ACTS. */
public final class SentencesOneTest {
    private static final String LETTERS = "ABCDEF";

    public static void main(String[] args) {
        newObject();
        calls();
        paperAndCoin();
        owes();
        lots();
        statePaperAndForged();
        burnt();
        notes();
        land();
        rate();
        padLength();
        wiped();
        everySignAtEveryPlace();
        faultOfMoreToCome();
        emptyPad();
        prints();
        forges();
        buys();
        changes();
        pays();
        isPaid();
        monthEnds();
        Check.finish("SentencesOneTest");
    }

    /** The text behind a wiped PAD can be. */
    private static void can(AbbeyNotes x, String text) {
        Check.anew(x, text);
        Check.due("judge(0) of " + text, x.judge(0), Check.NONE);
        Check.due("judge(1) of " + text, x.judge(1), Check.NONE);
    }

    private static void newObject() {
        Check.sentence("All have a hundred of both; all land is the STATE's");
        AbbeyNotes x = new AbbeyNotes();
        for (int i = 0; i < 6; i++) {
            Check.due("PAPER and COIN of " + i, x.one(i, 100, 100), 1000100);
            Check.due("LOTS of " + i, x.told(12 + 10 * i), 0);
            for (int k = 0; k < 6; k++) {
                Check.due("debt of " + i + " to " + k, x.told(200 + 10 * i + k), 0);
                Check.due("told by owe", x.owe(i, k, 0), i == k ? Check.UNKNOWN : 0);
            }
        }
        for (int lot = 0; lot < 8; lot++) {
            Check.due("whose LOT " + lot, x.told(101 + 10 * lot), Check.NONE);
            Check.due("PRICE of LOT " + lot, x.lot(lot, 100, -1), 100);
        }
        Check.due("PAPER of the STATE", x.set(0, 0), 0);
        Check.due("FORGED", x.set(1, 0), 0);
        int[] first = {0, 0, 0, 0, 0, 0, 600, 800, 100};
        for (int what = 0; what <= 8; what++) {
            Check.due("told " + what, x.told(what), first[what]);
        }
        Check.due("images", x.restore(0) + x.restore(1), 2 * Check.STATE);
        Check.due("signs", x.wipe(), 0);
        Check.due("SIGHTS", x.forget(), 0);
    }

    private static void calls() {
        Check.sentence("An object is used for at most 512 calls after it has been made");
        AbbeyNotes x = new AbbeyNotes();
        int before = 1000100;
        for (int call = 1; call <= 510; call++) {
            Check.due("call " + call, x.one(call % 6, call, call), call <= 6 ? before : 10001 * (call - 6));
        }
        Check.due("call 511", x.say('.'), 1);
        Check.due("call 512", x.done(), 1);
    }

    private static void paperAndCoin() {
        Check.sentence("ONES 0 to 5 (A to F) each have PAPER and COIN (0 to 9999 each; 100 and 100 at first)");
        for (int i = 0; i < 6; i++) {
            AbbeyNotes x = new AbbeyNotes();
            Check.due("none of both", x.one(i, 0, 0), 1000100);
            Check.due("all PAPER", x.one(i, 9999, 0), 0);
            Check.due("all COIN", x.one(i, 0, 9999), 99990000);
            Check.due("all of both", x.one(i, 9999, 9999), 9999);
            Check.due("told PAPER", x.told(10 + 10 * i), 9999);
            Check.due("told COIN", x.told(11 + 10 * i), 9999);
            Check.due("one of each", x.one(i, 1, 1), 99999999);
            Check.due("told", x.one(i, 2, 3), 10001);
            for (int k = 0; k < 6; k++) {
                Check.due("another one", x.told(10 + 10 * k) * 1000 + x.told(11 + 10 * k), k == i ? 2003 : 100100);
            }
        }
    }

    private static void owes() {
        Check.sentence("OWE each other ONE some PAPER (0 to 999 each; 0 at first)");
        for (int i = 0; i < 6; i++) {
            AbbeyNotes x = new AbbeyNotes();
            for (int k = 0; k < 6; k++) {
                if (k != i) {
                    Check.due("at first", x.owe(i, k, 999), 0);
                    Check.due("the most", x.owe(i, k, 0), 999);
                    Check.due("the least", x.owe(i, k, 900 + k), 0);
                    Check.due("told", x.told(200 + 10 * i + k), 900 + k);
                    Check.due("not the other way", x.told(200 + 10 * k + i), 0);
                }
            }
            Check.due("in all", x.behind(i, 3), 4500 + 15 - i);
            Check.due("of himself", x.told(200 + 11 * i), 0);
        }
    }

    private static void lots() {
        Check.sentence("LOTS 0 to 7 of land each have a PRICE (1 to 999; 100 at first), "
            + "and are the STATE's (at first), or some ONE's");
        for (int lot = 0; lot < 8; lot++) {
            AbbeyNotes x = new AbbeyNotes();
            Check.due("at first", x.lot(lot, 1, -1), 100);
            Check.due("the least", x.lot(lot, 999, -1), 1);
            for (int i = 0; i < 6; i++) {
                Check.due("the most", x.lot(lot, 999, i), 999);
                Check.due("whose", x.told(101 + 10 * lot), i);
                Check.due("bits", x.told(12 + 10 * i), 1 << lot);
                Check.due("no LAND then", x.told(7), 700);
            }
            Check.due("the STATE's again", x.lot(lot, 998, -1), 999);
            Check.due("whose", x.told(101 + 10 * lot), Check.NONE);
            Check.due("LAND then", x.told(7), 1698);
        }
    }

    private static void statePaperAndForged() {
        Check.sentence("The STATE has PAPER, too (0 at first, 99999 at the most). FORGED (0 at first, 99999 at the most)");
        AbbeyNotes x = new AbbeyNotes();
        Check.due("PAPER at first", x.set(0, 99999), 0);
        Check.due("FORGED at first", x.set(1, 99998), 0);
        Check.due("PAPER at the most", x.told(1), 99999);
        Check.due("FORGED", x.told(2), 99998);
        Check.due("PAPER", x.set(0, 0), 99999);
        Check.due("FORGED", x.set(1, 99999), 99998);
        Check.due("FORGED at the most", x.set(1, 0), 99999);
        Check.due("no PAPER", x.told(1), 0);
        Check.due("nothing FORGED", x.told(2), 0);
    }

    /** No limit is told for BURNT: it goes past what the STATE may have. */
    private static void burnt() {
        Check.sentence("BURNT (0 at first) is what was burnt");
        AbbeyNotes x = new AbbeyNotes();
        Check.due("at first", x.told(3), 0);
        for (int round = 1; round <= 13; round++) {
            x.one(0, 7992, 0);
            for (int lot = 0; lot < 8; lot++) {
                x.lot(lot, 999, -1);
                x.say('A');
                x.say('$');
                x.say('0' + lot);
            }
            Check.due("all LOTS bought", x.done(), 8);
        }
        Check.due("BURNT", x.told(3), 13 * 7992);
        x.one(0, 999, 0);
        x.lot(0, 999, -1);
        can(x, "A$0");
        Check.due("BURNT behind", x.total(3), 104895);
    }

    private static void notes() {
        Check.sentence("NOTES: all PAPER that ONES and the STATE have");
        AbbeyNotes x = new AbbeyNotes();
        x.set(1, 5000);
        for (int i = 0; i < 6; i++) {
            x.one(i, 0, 77);
        }
        Check.due("none", x.told(6), 0);
        for (int i = 0; i < 6; i++) {
            x.one(i, 9999, 0);
            Check.due("ONES'", x.told(6), 9999 * (i + 1));
        }
        x.set(0, 99999);
        Check.due("all that can be", x.told(6), 159993);
        Check.due("all that can be", x.total(0), 159993);
    }

    private static void land() {
        Check.sentence("LAND: PRICES of LOTS that are the STATE's");
        AbbeyNotes x = new AbbeyNotes();
        for (int lot = 0; lot < 8; lot++) {
            x.lot(lot, 999, -1);
        }
        Check.due("all that can be", x.told(7), 7992);
        for (int lot = 0; lot < 8; lot++) {
            x.lot(lot, 999, lot % 6);
            Check.due("less", x.told(7), 7992 - 999 * (lot + 1));
        }
        Check.due("none", x.total(1), 0);
    }

    private static void rate() {
        Check.sentence("100 times LAND by NOTES, cut, 100 at the most (100, if there are no NOTES)");
        AbbeyNotes x = new AbbeyNotes();
        x.set(0, 200);
        Check.due("800 by 800", x.told(8), 100);
        x.set(0, 199);
        Check.due("100 at the most", x.told(8), 100);
        x.set(0, 201);
        Check.due("cut", x.told(8), 99);
        x.set(0, 79400);
        Check.due("800 by 80000", x.told(8), 1);
        x.set(0, 79401);
        Check.due("cut to 0", x.told(8), 0);
        for (int i = 0; i < 6; i++) {
            x.one(i, 0, 0);
        }
        x.set(0, 1);
        Check.due("one note", x.told(8), 100);
        x.set(0, 0);
        Check.due("no NOTES", x.told(8), 100);
        for (int lot = 0; lot < 8; lot++) {
            x.lot(lot, 1, 0);
        }
        Check.due("no NOTES, no LAND", x.told(8), 100);
        x.set(0, 1);
        Check.due("no LAND", x.told(8), 0);
    }

    private static void padLength() {
        Check.sentence("MONTHS are a text on a PAD of up to 60 signs (codes 33 to 126)");
        AbbeyNotes x = new AbbeyNotes();
        Check.say(x, "+1".repeat(29) + "+");
        Check.due("59 signs", x.told(0), 59);
        Check.due("the last sign", x.say('9'), 60);
        Check.due("too many", x.say('9'), Check.FULL);
        Check.due("signs", x.told(0), 60);
        Check.due("full and right", x.fault(), Check.NONE);
        Check.due("all of it is followed", x.total(0), 600 + 2900 + 900);
        Check.due("done", x.done(), 30);
        Check.due("room again", x.say('.'), 1);
        AbbeyNotes y = new AbbeyNotes();
        for (int sign = 33; sign <= 92; sign++) {
            Check.due("say " + sign, y.say(sign), sign - 32);
        }
        Check.due("wiped", y.wipe(), 60);
        for (int sign = 93; sign <= 126; sign++) {
            Check.due("say " + sign, y.say(sign), sign - 92);
        }
    }

    private static void wiped() {
        Check.sentence("Signs go: how many there were");
        AbbeyNotes x = new AbbeyNotes();
        Check.due("empty", x.wipe(), 0);
        x.say('A');
        Check.due("one", x.wipe(), 1);
        Check.due("gone", x.wipe(), 0);
        Check.due("no FAULT", x.fault(), Check.NONE);
        Check.say(x, "!".repeat(60));
        Check.due("full", x.wipe(), 60);
        Check.due("told", x.told(0), 0);
        Check.due("from the first place on", x.say('.'), 1);
        Check.due("nothing of before", x.fault(), Check.NONE);
        Check.due("a month", x.judge(2), 1);
    }

    /** Each of the 94 signs behind each beginning of an ACT, at the PAD's beginning and behind other ACTS. */
    private static void everySignAtEveryPlace() {
        Check.sentence("THE FAULT: the place (from 0 on) of the first sign that can not stand there");
        String[] begun = {"", "+", "!", "!C", "D", "D$", "D/", "D>", "D@"};
        String[] fits = {".+!ABCDEF", "123456789", LETTERS, "123456789", "$/>@", "01234567", "123456789", LETTERS, "123456789"};
        String[] whole = {".", "123456789", "", "123456789", "", "01234567", "123456789", LETTERS, "123456789"};
        for (String ahead : new String[] {"", ".+1!A9B>B", "F$0F/1F>FF@1."}) {
            for (int i = 0; i < begun.length; i++) {
                for (char sign = 33; sign <= 126; sign++) {
                    String text = ahead + begun[i] + sign;
                    int place = text.length() - 1;
                    boolean stands = fits[i].indexOf(sign) >= 0;
                    boolean ends = whole[i].indexOf(sign) >= 0;
                    AbbeyNotes x = new AbbeyNotes();
                    Check.say(x, text);
                    Check.due("fault of " + text, x.fault(), ends ? Check.NONE : stands ? place + 1 : place);
                    if (!stands) {
                        Check.say(x, "9A.");
                        Check.due("the first alone: " + text, x.fault(), place);
                    }
                }
            }
        }
    }

    private static void faultOfMoreToCome() {
        Check.sentence("or the number of signs, if more must come");
        String[] open = {"+", "!", "!A", "A", "A$", "A/", "A>", "A@"};
        for (String last : open) {
            AbbeyNotes x = new AbbeyNotes();
            Check.say(x, last);
            Check.due("fault of " + last, x.fault(), last.length());
            Check.due("no months", x.judge(0), Check.NO);
            x.wipe();
            Check.say(x, ".".repeat(60 - last.length()) + last);
            Check.due("a full PAD that ends by " + last, x.fault(), 60);
            Check.due("no room for more", x.say('1'), Check.FULL);
            Check.due("as before", x.fault(), 60);
            Check.due("no months", x.done(), Check.NO);
        }
        AbbeyNotes x = new AbbeyNotes();
        Check.say(x, ".".repeat(59) + "x");
        Check.due("the last place", x.fault(), 59);
    }

    private static void emptyPad() {
        Check.sentence("an empty PAD has no FAULT: no ACTS");
        AbbeyNotes x = new AbbeyNotes();
        String before = Check.all(x);
        Check.due("fault", x.fault(), Check.NONE);
        Check.due("judge(0)", x.judge(0), Check.NONE);
        Check.due("judge(1)", x.judge(1), Check.NONE);
        Check.due("judge(2)", x.judge(2), 0);
        Check.due("behind", x.behind(0, 0), 100);
        Check.due("total", x.total(0), 600);
        Check.due("fell", x.fell(100), Check.NONE);
        Check.due("done", x.done(), 0);
        Check.same("as before", Check.all(x), before);
        Check.say(x, "+9.A>A");
        Check.due("some ACT can not be", x.judge(1), 1);
        Check.due("below 100", x.fell(100), Check.STATE);
        x.wipe();
        Check.due("nothing is left of it", x.judge(0), Check.NONE);
        Check.due("nothing is left of it, months", x.judge(2), 0);
        Check.due("nothing is left of it, fell", x.fell(100), Check.NONE);
        Check.due("nothing is left of it, done", x.done(), 0);
    }

    private static void prints() {
        Check.sentence("+ and a digit 1 to 9 (the STATE prints so many hundreds)");
        for (int n = 1; n <= 9; n++) {
            AbbeyNotes x = new AbbeyNotes();
            can(x, "+" + n);
            Check.due("NOTES", x.total(0), 600 + 100 * n);
            Check.due("not FORGED", x.total(4), 0);
            Check.due("done", x.done(), 1);
            Check.due("the STATE has them", x.told(1), 100 * n);
        }
    }

    private static void forges() {
        Check.sentence("! and a ONE's letter and a digit 1 to 9 (so many hundreds are forged for that one)");
        for (int n = 1; n <= 9; n++) {
            int one = n % 6;
            AbbeyNotes x = new AbbeyNotes();
            can(x, "!" + LETTERS.charAt(one) + n);
            for (int i = 0; i < 6; i++) {
                Check.due("PAPER of " + i, x.behind(i, 0), i == one ? 100 + 100 * n : 100);
            }
            Check.due("FORGED", x.total(4), 100 * n);
            Check.due("NOTES", x.total(0), 600 + 100 * n);
        }
    }

    private static void buys() {
        Check.sentence("$ and a digit 0 to 7 (he buys that LOT from the STATE for its PRICE in PAPER, which is BURNT)");
        for (int lot = 0; lot < 8; lot++) {
            int one = lot % 6;
            AbbeyNotes x = new AbbeyNotes();
            x.lot(lot, 91 + lot, -1);
            can(x, LETTERS.charAt(one) + "$" + lot);
            Check.due("PAPER", x.behind(one, 0), 9 - lot);
            Check.due("COIN", x.behind(one, 1), 100);
            Check.due("LOTS", x.behind(one, 2), 1 << lot);
            Check.due("BURNT", x.total(3), 91 + lot);
            Check.due("NOTES", x.total(0), 600 - 91 - lot);
            Check.due("LAND", x.total(1), 700);
            Check.due("FORGED", x.total(4), 0);
            x.done();
            Check.due("the STATE gets nothing", x.told(1), 0);
            Check.due("the PRICE stays", x.told(100 + 10 * lot), 91 + lot);
        }
    }

    private static void changes() {
        Check.sentence("/ and a digit 1 to 9 (he changes so many tens of PAPER with the STATE for COIN, "
            + "what they are worth by RATE ahead of it, cut; the STATE has the PAPER then)");
        for (int n = 1; n <= 9; n++) {
            int one = n % 6;
            AbbeyNotes x = new AbbeyNotes();
            can(x, LETTERS.charAt(one) + "/" + n);
            Check.due("PAPER", x.behind(one, 0), 100 - 10 * n);
            Check.due("COIN at par", x.behind(one, 1), 100 + 10 * n);
            Check.due("NOTES", x.total(0), 600);
            x.set(0, 1824);
            Check.due("RATE", x.told(8), 33);
            int[] worth = {3, 6, 9, 13, 16, 19, 23, 26, 29};
            Check.due("COIN by RATE, cut", x.behind(one, 1), 100 + worth[n - 1]);
            x.done();
            Check.due("the STATE has the PAPER then", x.told(1), 1824 + 10 * n);
        }
        AbbeyNotes y = new AbbeyNotes();
        y.set(0, 300);
        y.lot(0, 50, -1);
        // 750 by 900: 83; 750 by 1600: 46; 700 by 1550: 45
        can(y, "A/1+7A/1A$0A/1");
        Check.due("by RATE of the moment", y.behind(0, 1), 100 + 8 + 4 + 4);
    }

    private static void pays() {
        Check.sentence("> and a ONE's letter (he pays that one what he OWES him, in PAPER, as much as he has)");
        for (int i = 0; i < 6; i++) {
            for (int k = 0; k < 6; k++) {
                if (i != k) {
                    for (int debt = 99; debt <= 101; debt++) {
                        AbbeyNotes x = new AbbeyNotes();
                        x.owe(i, k, debt);
                        x.owe(k, i, 7);
                        can(x, LETTERS.charAt(i) + ">" + LETTERS.charAt(k));
                        int paid = Math.min(100, debt);
                        Check.due("PAPER", x.behind(i, 0), 100 - paid);
                        Check.due("his PAPER", x.behind(k, 0), 100 + paid);
                        Check.due("OWES", x.behind(i, 3), debt - paid);
                        Check.due("is owed", x.behind(k, 3), 7);
                        Check.due("NOTES", x.total(0), 600);
                    }
                }
            }
        }
    }

    private static void isPaid() {
        Check.sentence("@ and a digit 1 to 9 (the STATE pays him so many hundreds of PAPER)");
        for (int n = 1; n <= 9; n++) {
            int one = n % 6;
            AbbeyNotes x = new AbbeyNotes();
            x.set(0, 950);
            can(x, LETTERS.charAt(one) + "@" + n);
            Check.due("PAPER", x.behind(one, 0), 100 + 100 * n);
            Check.due("NOTES", x.total(0), 1550);
            x.done();
            Check.due("of the STATE", x.told(1), 950 - 100 * n);
        }
    }

    private static void monthEnds() {
        Check.sentence(". (a month ends)");
        AbbeyNotes x = new AbbeyNotes();
        can(x, ".");
        Check.due("months", x.judge(2), 1);
        Check.due("done", x.done(), 1);
        Check.due("told", x.told(4), 1);
        can(x, "+1.+1");
        Check.due("months of the text", x.judge(2), 1);
        Check.due("months in all", x.total(5), 2);
    }
}
