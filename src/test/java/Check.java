/** Counts answers that are not as due, and ends a test by them. */
final class Check {
    static final int UNKNOWN = -1, OUTSIDE = -2, STATE = -3, FULL = -4, NO = -5, NONE = -6;
    static final long GONE = -1000000000000000000L;

    private static int wrong = 0;
    private static int asked = 0;
    private static String sentence = "";

    private Check() {
    }

    /** The words of the document that the next answers are asked by. */
    static void sentence(String words) {
        sentence = "\"" + words + "\": ";
    }

    static void due(String call, long got, long want) {
        asked++;
        if (got != want) {
            wrong++;
            System.out.println(sentence + call + " answered " + got + ", due is " + want);
        }
    }

    /** Says a text sign by sign behind what stands on the PAD. */
    static void say(AbbeyNotes x, String text) {
        int before = x.told(0);
        for (int i = 0; i < text.length(); i++) {
            due("say " + text + " at " + i, x.say(text.charAt(i)), before + i + 1);
        }
    }

    /** Wipes the PAD and says a text on it. */
    static void anew(AbbeyNotes x, String text) {
        x.wipe();
        say(x, text);
    }

    /** All that told() answers, so that two moments can be compared: by 79 calls, as an object has but 512. */
    static String all(AbbeyNotes x) {
        StringBuilder row = new StringBuilder();
        for (int what = 0; what < 260; what++) {
            if (isTold(what)) {
                row.append(x.told(what)).append(' ');
            }
        }
        return row.toString();
    }

    /** Whether the document gives the number a meaning for told(). */
    static boolean isTold(int what) {
        int digit = Math.floorMod(what, 10);
        return what >= 0 && what <= 8 || what >= 10 && what < 70 && digit <= 2 || what >= 100 && what < 180 && digit <= 1
                || what >= 200 && what < 260 && digit <= 5;
    }

    static void same(String what, String got, String want) {
        asked++;
        if (!got.equals(want)) {
            wrong++;
            System.out.println(sentence + what + ": " + got + ", due is " + want);
        }
    }

    static void finish(String name) {
        System.out.println(name + ": " + asked + " answers, " + wrong + " not as due");
        if (wrong != 0 || asked == 0) {
            System.exit(1);
        }
    }
}
