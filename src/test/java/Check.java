/** Counts answers that are not as due, and ends a test by them. */
final class Check {
    static final int UNKNOWN = -1, OUTSIDE = -2, STATE = -3, FULL = -4, NO = -5, NONE = -6;
    static final long GONE = -1000000000000000000L;

    private static int wrong = 0;
    private static int asked = 0;

    private Check() {
    }

    static void due(String call, long got, long want) {
        asked++;
        if (got != want) {
            wrong++;
            System.out.println(call + " answered " + got + ", due is " + want);
        }
    }

    /** Says a text sign by sign behind what stands on the PAD. */
    static void say(AbbeyNotes x, String text) {
        int before = x.told(0);
        for (int i = 0; i < text.length(); i++) {
            due("say " + text + " at " + i, x.say(text.charAt(i)), before + i + 1);
        }
    }

    /** Wipes the PAD and says a text on it. */
    static void anew(AbbeyNotes x, String text) {
        x.wipe();
        say(x, text);
    }

    /** All that told() answers, so that two moments can be compared. */
    static String all(AbbeyNotes x) {
        StringBuilder row = new StringBuilder();
        for (int what = 0; what < 270; what++) {
            row.append(x.told(what)).append(' ');
        }
        return row.toString();
    }

    static void same(String what, String got, String want) {
        asked++;
        if (!got.equals(want)) {
            wrong++;
            System.out.println(what + ": " + got + ", due is " + want);
        }
    }

    static void finish(String name) {
        System.out.println(name + ": " + asked + " answers, " + wrong + " not as due");
        if (wrong != 0 || asked == 0) {
            System.exit(1);
        }
    }
}
