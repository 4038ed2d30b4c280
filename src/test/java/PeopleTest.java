/** Promises 1 to 8: people, land, the state, the PAD. */
public final class PeopleTest {
    private static final int LEAST = Integer.MIN_VALUE, MOST = Integer.MAX_VALUE;

    public static void main(String[] args) {
        newObject();
        one();
        owe();
        lot();
        set();
        sayAndWipe();
        fault();
        Check.finish("PeopleTest");
    }

    private static void newObject() {
        AbbeyNotes x = new AbbeyNotes();
        int[] first = {0, 0, 0, 0, 0, 0, 600, 800, 100};
        for (int what = 0; what < first.length; what++) {
            Check.due("new told " + what, x.told(what), first[what]);
        }
        for (int i = 0; i < 6; i++) {
            Check.due("new paper", x.told(10 + 10 * i), 100);
            Check.due("new coin", x.told(11 + 10 * i), 100);
            Check.due("new lots", x.told(12 + 10 * i), 0);
            for (int k = 0; k < 6; k++) {
                Check.due("new debt", x.told(200 + 10 * i + k), 0);
            }
        }
        for (int i = 0; i < 8; i++) {
            Check.due("new price", x.told(100 + 10 * i), 100);
            Check.due("new owner", x.told(101 + 10 * i), Check.NONE);
        }
        Check.due("new fault", x.fault(), Check.NONE);
        Check.due("new restore", x.restore(0), Check.STATE);
    }

    private static void one() {
        AbbeyNotes x = new AbbeyNotes();
        Check.due("one", x.one(5, 9999, 1234), 1000100);
        Check.due("one again", x.one(5, 0, 9999), 99991234);
        Check.due("one once more", x.one(5, 7, 8), 9999);
        Check.due("one of another", x.one(0, 3, 4), 1000100);
        String before = Check.all(x);
        int[] no = {-1, 6, LEAST, MOST};
        for (int i : no) {
            Check.due("one unknown", x.one(i, 1, 1), Check.UNKNOWN);
            Check.due("one unknown ahead of outside", x.one(i, -1, 1), Check.UNKNOWN);
        }
        int[] out = {-1, 10000, LEAST, MOST};
        for (int v : out) {
            Check.due("one paper outside", x.one(5, v, 0), Check.OUTSIDE);
            Check.due("one coin outside", x.one(5, 0, v), Check.OUTSIDE);
        }
        Check.same("one refused changes nothing", Check.all(x), before);
    }

    private static void owe() {
        AbbeyNotes x = new AbbeyNotes();
        Check.due("owe", x.owe(2, 3, 999), 0);
        Check.due("owe nothing", x.owe(2, 3, 0), 999);
        Check.due("owe again", x.owe(2, 3, 1), 0);
        Check.due("owe the other way", x.owe(3, 2, 5), 0);
        Check.due("owe told", x.told(223), 1);
        Check.due("owe told the other way", x.told(232), 5);
        String before = Check.all(x);
        Check.due("owe himself", x.owe(2, 2, 5), Check.UNKNOWN);
        Check.due("owe himself ahead of outside", x.owe(2, 2, -5), Check.UNKNOWN);
        int[] no = {-1, 6, LEAST, MOST};
        for (int i : no) {
            Check.due("owe unknown one", x.owe(i, 1, 1), Check.UNKNOWN);
            Check.due("owe unknown other", x.owe(1, i, 1000), Check.UNKNOWN);
        }
        int[] out = {-1, 1000, LEAST, MOST};
        for (int v : out) {
            Check.due("owe outside", x.owe(2, 3, v), Check.OUTSIDE);
        }
        Check.same("owe refused changes nothing", Check.all(x), before);
    }

    private static void lot() {
        AbbeyNotes x = new AbbeyNotes();
        Check.due("lot", x.lot(7, 999, 5), 100);
        Check.due("lot told", x.told(171), 5);
        Check.due("lot is his", x.told(62), 128);
        Check.due("lot again", x.lot(7, 1, -1), 999);
        Check.due("lot is the state's", x.told(171), Check.NONE);
        Check.due("land", x.told(7), 701);
        Check.due("rate at par at the most", x.told(8), 100);
        x.set(0, 102);
        Check.due("rate cut", x.told(8), 99);
        for (int i = 0; i < 6; i++) {
            x.one(i, 0, 0);
        }
        x.set(0, 0);
        Check.due("rate without notes", x.told(8), 100);
        String before = Check.all(x);
        int[] no = {-1, 8, LEAST, MOST};
        for (int i : no) {
            Check.due("lot unknown", x.lot(i, 0, 0), Check.UNKNOWN);
        }
        int[] nobody = {-2, 6, LEAST, MOST};
        for (int i : nobody) {
            Check.due("lot of nobody", x.lot(0, 0, i), Check.UNKNOWN);
        }
        int[] out = {0, -1, 1000, LEAST, MOST};
        for (int v : out) {
            Check.due("lot price outside", x.lot(0, v, 0), Check.OUTSIDE);
        }
        Check.same("lot refused changes nothing", Check.all(x), before);
    }

    private static void set() {
        AbbeyNotes x = new AbbeyNotes();
        Check.due("set state", x.set(0, 99999), 0);
        Check.due("set forged", x.set(1, 7), 0);
        Check.due("set state again", x.set(0, 3), 99999);
        Check.due("set forged again", x.set(1, 99999), 7);
        Check.due("set notes", x.told(6), 603);
        String before = Check.all(x);
        int[] out = {-1, 100000, LEAST, MOST};
        for (int v : out) {
            Check.due("set v outside", x.set(0, v), Check.OUTSIDE);
            Check.due("set v outside", x.set(1, v), Check.OUTSIDE);
        }
        int[] which = {-1, 2, LEAST, MOST};
        for (int i : which) {
            Check.due("set which outside", x.set(i, 0), Check.OUTSIDE);
        }
        Check.same("set refused changes nothing", Check.all(x), before);
    }

    private static void sayAndWipe() {
        AbbeyNotes x = new AbbeyNotes();
        Check.due("wipe nothing", x.wipe(), 0);
        int[] out = {32, 127, 0, -1, LEAST, MOST};
        for (int sign : out) {
            Check.due("say outside", x.say(sign), Check.OUTSIDE);
        }
        Check.due("say least", x.say(33), 1);
        Check.due("say most", x.say(126), 2);
        for (int i = 3; i <= 60; i++) {
            Check.due("say many", x.say('.'), i);
        }
        Check.due("say full", x.say('.'), Check.FULL);
        Check.due("say outside ahead of full", x.say(32), Check.OUTSIDE);
        Check.due("signs", x.told(0), 60);
        Check.due("wipe", x.wipe(), 60);
        Check.due("wipe again", x.wipe(), 0);
        Check.due("signs gone", x.told(0), 0);
        Check.due("fault gone", x.fault(), Check.NONE);
    }

    private static void faultOf(String text, int want) {
        AbbeyNotes x = new AbbeyNotes();
        Check.say(x, text);
        Check.due("fault of " + text, x.fault(), want);
    }

    private static void fault() {
        String[] right = {"", ".", "+1", "+9", "!A1", "!F9", "A$0", "F$7", "A/1", "F/9", "A>F", "F>A", "B>B", "C@1", "D@9",
            "+1!B2C$3D/4E>FA@5..", "........"};
        for (String text : right) {
            faultOf(text, Check.NONE);
        }
        String[] wrong = {"G", "a", "1", "$", "/", ">", "@", "~", "+0", "+A", "+.", "!1", "!G", "!.", "!A0", "!A.", "A$8", "A$A",
            "A/0", "A/A", "A>G", "A>1", "A@0", "A@A", "A.", "A+", "A1", "AA", "+1+0", "..x"};
        int[] place = {0, 0, 0, 0, 0, 0, 0, 0, 1, 1, 1, 1, 1, 1, 2, 2, 2, 2,
            2, 2, 2, 2, 2, 2, 1, 1, 1, 1, 3, 2};
        for (int i = 0; i < wrong.length; i++) {
            faultOf(wrong[i], place[i]);
            faultOf(wrong[i] + "A$8", place[i]);
        }
        String[] more = {"+", "!", "!B", "B", "B$", "B/", "B>", "B@", ".+", "..A", "+1!C"};
        for (String text : more) {
            faultOf(text, text.length());
        }
    }
}
