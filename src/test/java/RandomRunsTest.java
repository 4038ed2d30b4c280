import java.util.Random;

/** Long runs of calls, ordinary, at the edges and beyond, answered by the class and by the Model alike. */
public final class RandomRunsTest {
    private static final int RUNS = 1500, CALLS = 512;
    private static final String[] DEEDS = {"$", "/", ">", "@"};

    private final Random random;
    private final AbbeyNotes x = new AbbeyNotes();
    private final Model model = new Model();
    private String text = "";
    private int calls;

    private RandomRunsTest(int seed) {
        random = new Random(seed);
    }

    public static void main(String[] args) {
        for (int run = 0; run < RUNS; run++) {
            new RandomRunsTest(run).run(run);
        }
        Check.finish("RandomRunsTest");
    }

    private void run(int run) {
        // One step makes two calls at the most.
        for (calls = 1; calls < CALLS; calls++) {
            call("run " + run + " call " + calls + " ");
        }
    }

    /** Most often within, now and then at an edge, just beyond one or far beyond. */
    private int near(int least, int most) {
        switch (random.nextInt(24)) {
            case 0:
                return least - 1;
            case 1:
                return most + 1;
            case 2:
                return random.nextBoolean() ? Integer.MIN_VALUE : Integer.MAX_VALUE;
            case 3: case 4:
                return least;
            case 5: case 6:
                return most;
            default:
                return least + random.nextInt(most - least + 1);
        }
    }

    /** Small numbers as often as great ones. */
    private int sum(int most) {
        return random.nextBoolean() ? near(0, Math.min(most, 400)) : near(0, most);
    }

    private int nextSign() {
        if (random.nextInt(60) == 0) {
            return near(33, 126);
        }
        if (text.isEmpty()) {
            text = nextAct();
        }
        int sign = text.charAt(0);
        text = text.substring(1);
        return sign;
    }

    private String nextAct() {
        char who = (char) ('A' + random.nextInt(6));
        int digit = 1 + random.nextInt(random.nextBoolean() ? 2 : 9);
        switch (random.nextInt(8)) {
            case 0:
                return "+" + digit;
            case 1:
                return "!" + who + digit;
            case 2: case 3:
                return ".";
            default:
                String deed = DEEDS[random.nextInt(4)];
                if (deed.equals(">")) {
                    return who + deed + (char) ('A' + random.nextInt(6));
                }
                return who + deed + (deed.equals("$") ? random.nextInt(8) : digit);
        }
    }

    private void call(String where) {
        int kind = random.nextInt(100);
        if (kind < 40) {
            int sign = nextSign();
            Check.due(where + "say " + sign, x.say(sign), model.say(sign));
        } else if (kind < 52) {
            people(where);
        } else if (kind < 75) {
            months(where);
        } else if (kind < 87) {
            printing(where);
        } else {
            forgers(where);
        }
    }

    private void people(String where) {
        int a = near(0, 5);
        int b = near(0, 5);
        switch (random.nextInt(6)) {
            case 0: {
                int paper = sum(9999);
                int coin = sum(9999);
                Check.due(where + "one", x.one(a, paper, coin), model.one(a, paper, coin));
                break;
            }
            case 1: case 2: {
                int v = sum(999);
                Check.due(where + "owe", x.owe(a, b, v), model.owe(a, b, v));
                break;
            }
            case 3: {
                int lot = near(0, 7);
                int price = near(1, 999);
                int whose = random.nextBoolean() ? -1 : near(-1, 5);
                Check.due(where + "lot", x.lot(lot, price, whose), model.lot(lot, price, whose));
                break;
            }
            case 4: {
                int which = near(0, 1);
                int v = random.nextBoolean() ? near(0, 999) : sum(99999);
                Check.due(where + "set", x.set(which, v), model.set(which, v));
                break;
            }
            default:
                text = "";
                Check.due(where + "wipe", x.wipe(), model.wipe());
        }
    }

    private void months(String where) {
        int what = near(0, 5);
        switch (random.nextInt(8)) {
            case 0:
                Check.due(where + "fault", x.fault(), model.fault());
                break;
            case 1: case 2:
                Check.due(where + "judge", x.judge(what % 3), model.judge(what % 3));
                break;
            case 3: {
                int one = near(0, 5);
                Check.due(where + "behind", x.behind(one, what), model.behind(one, what));
                break;
            }
            case 4:
                Check.due(where + "total", x.total(what), model.total(what));
                break;
            case 5: {
                int v = near(0, 100);
                Check.due(where + "fell", x.fell(v), model.fell(v));
                break;
            }
            case 6:
                finish(where);
                break;
            default:
                Check.due(where + "struck", x.struck(what % 3), model.struck(what % 3));
        }
    }

    /** Done, or wiped where it can not be, so that a run goes on. */
    private void finish(String where) {
        int got = x.done();
        Check.due(where + "done", got, model.done());
        if (got < 0 && random.nextBoolean()) {
            text = "";
            calls++;
            Check.due(where + "wipe", x.wipe(), model.wipe());
        }
    }

    private void printing(String where) {
        int what = near(0, 1);
        switch (random.nextInt(5)) {
            case 0: {
                int v = near(1, 100);
                Check.due(where + "prints", x.prints(v), model.prints(v));
                break;
            }
            case 1: {
                int v = random.nextBoolean() ? near(0, 9999) : near(0, 2000);
                Check.due(where + "buys", x.buys(v, what), model.buys(v, what));
                break;
            }
            case 2: {
                int notes = random.nextBoolean() ? near(1, 99999) : near(1, 1200);
                int g = random.nextBoolean() ? near(0, 99) : near(0, 3);
                int v = near(1, 100);
                Check.due(where + "runs", x.runs(notes, g, v), model.runs(notes, g, v));
                break;
            }
            case 3: {
                int prices = near(0, 999999999);
                int n = near(0, 8);
                Check.due(where + "wages", x.wages(prices, n), model.wages(prices, n));
                break;
            }
            default: {
                int v = near(0, 60);
                int m = near(0, 8);
                int t = near(0, 10);
                int part = near(0, 1);
                Check.due(where + "change", x.change(v, m, t, what, part), model.change(v, m, t, what, part));
            }
        }
    }

    private void forgers(String where) {
        int what = near(0, 2);
        int k = near(0, 1);
        int d = near(0, 3);
        switch (random.nextInt(9)) {
            case 0: {
                int n = near(1, 30);
                int f = near(0, Math.max(0, Math.min(n, 31)));
                int drawn = near(0, Math.max(0, Math.min(n, 31)));
                int j = near(0, Math.max(0, Math.min(drawn, 31)));
                Check.due(where + "sample", x.sample(n, f, drawn, j, k), model.sample(n, f, drawn, j, k));
                break;
            }
            case 1: {
                int set = near(0, 255);
                int many = random.nextBoolean() ? near(0, 8) : Math.max(0, Integer.bitCount(set & 255) - random.nextInt(3));
                Check.due(where + "seen", x.seen(set, many, k), model.seen(set, many, k));
                break;
            }
            case 2:
                if (random.nextInt(3) == 0) {
                    Check.due(where + "forget", x.forget(), model.forget());
                }
                break;
            case 3: {
                int i = random.nextBoolean() ? -1 : near(0, 20);
                Check.due(where + "clerks", x.clerks(d, i), model.clerks(d, i));
                break;
            }
            case 4:
                Check.due(where + "count", x.count(d, k), model.count(d, k));
                break;
            case 5: {
                int seed = near(0, 9999);
                int m = near(1, 99);
                Check.due(where + "year", x.year(seed, m, what), model.year(seed, m, what));
                break;
            }
            case 6:
                Check.due(where + "image", x.image(k), model.image(k));
                break;
            case 7:
                Check.due(where + "restore", x.restore(k), model.restore(k));
                break;
            default: {
                int thing = near(0, 270);
                Check.due(where + "told", x.told(thing), model.told(thing));
            }
        }
    }
}
