/** An object in which every kind of thing differs from a new one, and a look at all of it. */
final class Scene {
    private Scene() {
    }

    /** Six people, debts, lots, SIGHTS, two different IMAGES, two months ended, a text without a FAULT on the PAD. */
    static AbbeyNotes make() {
        AbbeyNotes x = new AbbeyNotes();
        for (int i = 0; i < 6; i++) {
            x.one(i, 300 + i, 400 + i);
            x.owe(i, (i + 1) % 6, 50 + i);
            x.lot(i, 20 + i, i - 1);
        }
        x.set(0, 5000);
        x.set(1, 600);
        x.seen(7, 2, 0);
        x.image(0);
        Check.say(x, ".A$6.");
        x.done();
        x.seen(240, 3, 1);
        x.one(3, 7, 8);
        x.image(1);
        x.seen(129, 1, 1);
        x.one(4, 9, 10);
        x.owe(5, 2, 11);
        Check.say(x, "+1B@2.C>D");
        return x;
    }

    /** All that can be seen of it, the IMAGES last: the object is not as it was then. */
    static String look(AbbeyNotes x) {
        StringBuilder row = new StringBuilder(Check.all(x));
        row.append(x.fault());
        for (int what = 0; what < 3; what++) {
            row.append(' ').append(x.judge(what));
        }
        for (int what = 0; what < 6; what++) {
            row.append(' ').append(x.total(what)).append(' ').append(x.behind(what, 0));
        }
        row.append(clerks(x)).append(" pad ").append(x.wipe());
        for (int k = 0; k < 2; k++) {
            row.append(" image ").append(x.restore(k)).append(' ').append(Check.all(x)).append(clerks(x));
        }
        return row.toString();
    }

    private static String clerks(AbbeyNotes x) {
        StringBuilder row = new StringBuilder(" clerks");
        for (int i = -1; i < 12; i++) {
            row.append(' ').append(x.clerks(3, i));
        }
        return row.toString();
    }
}
