import java.math.BigInteger;
import java.util.ArrayList;
import java.util.List;
import java.util.TreeMap;
import java.util.regex.Matcher;
import java.util.regex.Pattern;

/** The document once more, worked out in other ways than the class does: slow, by search and by names. */
final class Model {
    private static final Pattern ACTS =
        Pattern.compile("(\\+[1-9]|![A-F][1-9]|[A-F]\\$[0-7]|[A-F][/@][1-9]|[A-F]>[A-F]|\\.)*");
    private static final Pattern ACT = Pattern.compile("\\.|\\+.|[!A-F]..");

    /** All numbers by name: "A paper", "A coin", "A owes B", "price 0", "owner 0", "state", "forged", "burnt", "months". */
    private TreeMap<String, Integer> things = new TreeMap<>();
    private List<int[]> sights = new ArrayList<>();
    private final StringBuilder pad = new StringBuilder();
    private final List<TreeMap<String, Integer>> keptThings = new ArrayList<>(List.of(new TreeMap<>(), new TreeMap<>()));
    private final List<List<int[]>> keptSights = new ArrayList<>(List.of(new ArrayList<>(), new ArrayList<>()));

    Model() {
        for (char a = 'A'; a <= 'F'; a++) {
            things.put(a + " paper", 100);
            things.put(a + " coin", 100);
            for (char b = 'A'; b <= 'F'; b++) {
                things.put(a + " owes " + b, 0);
            }
        }
        for (int lot = 0; lot < 8; lot++) {
            things.put("price " + lot, 100);
            things.put("owner " + lot, -1);
        }
        things.put("state", 0);
        things.put("forged", 0);
        things.put("burnt", 0);
        things.put("months", 0);
    }

    private static boolean in(long v, long a, long b) {
        return a <= v && v <= b;
    }

    private static char letter(int one) {
        return "ABCDEF".charAt(one);
    }

    int one(int one, int paper, int coin) {
        if (!in(one, 0, 5)) return -1;
        if (!in(paper, 0, 9999) || !in(coin, 0, 9999)) return -2;
        return things.put(letter(one) + " paper", paper) * 10000 + things.put(letter(one) + " coin", coin);
    }

    int owe(int one, int other, int v) {
        if (!in(one, 0, 5) || !in(other, 0, 5) || one == other) return -1;
        return in(v, 0, 999) ? things.put(letter(one) + " owes " + letter(other), v) : -2;
    }

    int lot(int lot, int price, int one) {
        if (!in(lot, 0, 7) || !in(one, -1, 5)) return -1;
        if (!in(price, 1, 999)) return -2;
        things.put("owner " + lot, one);
        return things.put("price " + lot, price);
    }

    int set(int which, int v) {
        return in(which, 0, 1) && in(v, 0, 99999) ? things.put(which == 0 ? "state" : "forged", v) : -2;
    }

    int say(int sign) {
        if (!in(sign, 33, 126)) return -2;
        if (pad.length() >= 60) return -4;
        return pad.append((char) sign).length();
    }

    int wipe() {
        int n = pad.length();
        pad.setLength(0);
        return n;
    }

    /** A text can go on if the pattern hits its end, or is matched whole. */
    int fault() {
        for (int n = 1; n <= pad.length(); n++) {
            Matcher m = ACTS.matcher(pad.substring(0, n));
            if (!m.matches() && !canGoOn(pad.substring(0, n))) return n - 1;
        }
        return ACTS.matcher(pad).matches() ? -6 : pad.length();
    }

    private static boolean canGoOn(String text) {
        for (String more : new String[] {"1", "A", "A1", "$1"}) {
            if (ACTS.matcher(text + more).matches()) return true;
        }
        return false;
    }

    private static int notes(TreeMap<String, Integer> of) {
        int sum = of.get("state");
        for (char a = 'A'; a <= 'F'; a++) sum += of.get(a + " paper");
        return sum;
    }

    private static int land(TreeMap<String, Integer> of) {
        int sum = 0;
        for (int lot = 0; lot < 8; lot++) if (of.get("owner " + lot) == -1) sum += of.get("price " + lot);
        return sum;
    }

    private static int rate(TreeMap<String, Integer> of) {
        return rate(land(of), BigInteger.valueOf(notes(of)));
    }

    private static int rate(int land, BigInteger notes) {
        if (notes.signum() == 0) return 100;
        return BigInteger.valueOf(100L * land).divide(notes).min(BigInteger.valueOf(100)).intValue();
    }

    private static int lots(TreeMap<String, Integer> of, int whose) {
        int bits = 0;
        for (int lot = 0; lot < 8; lot++) if (of.get("owner " + lot) == whose) bits += 1 << lot;
        return bits;
    }

    /** What comes of an act, all in one; why it can not be is the least reason that fits. */
    private static int act(TreeMap<String, Integer> of, String act) {
        TreeMap<String, Integer> after = new TreeMap<>(of);
        char last = act.charAt(act.length() - 1);
        int n = last - '0';
        int why = 99;
        if (act.startsWith(".")) {
            after.merge("months", 1, Integer::sum);
            if (after.get("months") > 99) why = 6;
        } else if (act.startsWith("+")) {
            after.merge("state", 100 * n, Integer::sum);
        } else if (act.startsWith("!")) {
            after.merge(act.charAt(1) + " paper", 100 * n, Integer::sum);
            after.merge("forged", 100 * n, Integer::sum);
        } else if (act.charAt(1) == '$') {
            int price = of.get("price " + last);
            after.merge(act.charAt(0) + " paper", -price, Integer::sum);
            after.merge("burnt", price, Integer::sum);
            after.put("owner " + last, act.charAt(0) - 'A');
            if (of.get("owner " + last) != -1) why = 2;
        } else if (act.charAt(1) == '/') {
            after.merge(act.charAt(0) + " paper", -10 * n, Integer::sum);
            after.merge(act.charAt(0) + " coin", n * rate(of) / 10, Integer::sum);
            after.merge("state", 10 * n, Integer::sum);
        } else if (act.charAt(1) == '>') {
            String debt = act.charAt(0) + " owes " + last;
            int sum = Math.min(of.get(debt), of.get(act.charAt(0) + " paper"));
            after.merge(act.charAt(0) + " paper", -sum, Integer::sum);
            after.merge(last + " paper", sum, Integer::sum);
            after.merge(debt, -sum, Integer::sum);
            if (act.charAt(0) == last) why = 1;
            else if (sum == 0) why = 4;
        } else {
            after.merge("state", -100 * n, Integer::sum);
            after.merge(act.charAt(0) + " paper", 100 * n, Integer::sum);
        }
        for (String name : after.keySet()) {
            boolean held = name.endsWith("paper") || name.endsWith("coin");
            if ((held || name.equals("state")) && after.get(name) < 0) why = Math.min(why, 3);
            if (held && after.get(name) > 9999) why = Math.min(why, 5);
            if ((name.equals("state") || name.equals("forged")) && after.get(name) > 99999) why = Math.min(why, 5);
        }
        if (why != 99) return why;
        of.putAll(after);
        return 0;
    }

    /** What the text leads to; null if it has a FAULT. */
    private final class Followed {
        final TreeMap<String, Integer> end = new TreeMap<>(things);
        final List<Integer> rates = new ArrayList<>();
        int acts = 0;
        int why = 0;

        Followed() {
            Matcher m = ACT.matcher(pad);
            while (why == 0 && m.find()) {
                why = act(end, m.group());
                if (why == 0) acts++;
                if (why == 0 && m.group().equals(".")) rates.add(rate(end));
            }
        }
    }

    int judge(int what) {
        if (!in(what, 0, 2)) return -2;
        if (fault() != -6) return -5;
        Followed f = new Followed();
        if (what == 2) return f.why == 0 ? f.rates.size() : -3;
        return f.why == 0 ? -6 : what == 0 ? f.acts : f.why;
    }

    int behind(int one, int what) {
        if (!in(one, 0, 5)) return -1;
        if (!in(what, 0, 3)) return -2;
        if (judge(2) < 0) return judge(2);
        TreeMap<String, Integer> end = new Followed().end;
        char a = letter(one);
        int owed = 0;
        for (String name : end.keySet()) if (name.startsWith(a + " owes")) owed += end.get(name);
        return new int[] {end.get(a + " paper"), end.get(a + " coin"), lots(end, one), owed}[what];
    }

    int total(int what) {
        if (!in(what, 0, 5)) return -2;
        if (judge(2) < 0) return judge(2);
        TreeMap<String, Integer> end = new Followed().end;
        return new int[] {notes(end), land(end), rate(end), end.get("burnt"), end.get("forged"), end.get("months")}[what];
    }

    int fell(int v) {
        if (!in(v, 0, 100)) return -2;
        if (judge(2) < 0) return judge(2);
        List<Integer> rates = new Followed().rates;
        for (int i = 0; i < rates.size(); i++) if (rates.get(i) < v) return i;
        return -6;
    }

    int done() {
        if (judge(2) < 0) return judge(2);
        Followed f = new Followed();
        things = f.end;
        pad.setLength(0);
        return f.acts;
    }

    int struck(int what) {
        if (!in(what, 0, 1)) return -2;
        List<Integer> open = new ArrayList<>();
        int paid = 0;
        for (char a = 'A'; a <= 'F'; a++) {
            int due = 0;
            for (char b = 'A'; b <= 'F'; b++) due += things.get(b + " owes " + a) - things.get(a + " owes " + b);
            if (due != 0) open.add(due);
            paid += Math.abs(due);
        }
        return what == 1 ? paid / 2 : fewest(open);
    }

    /** The first open one has to pay or be paid; with whom, and who comes last is settled with him: tried in all ways. */
    private static int fewest(List<Integer> open) {
        if (open.isEmpty()) return 0;
        int best = 99;
        int first = open.get(0);
        for (int i = 1; i < open.size(); i++) {
            if (Integer.signum(first) != Integer.signum(open.get(i))) {
                List<Integer> rest = new ArrayList<>(open.subList(1, open.size()));
                int both = first + open.get(i);
                if (both == 0) rest.remove(i - 1);
                else rest.set(i - 1, both);
                best = Math.min(best, 1 + fewest(rest));
            }
        }
        return best;
    }

    int prints(int v) {
        if (!in(v, 1, 100)) return -2;
        for (int h = 999; h >= 0; h--) {
            if (rate(land(things), BigInteger.valueOf(notes(things) + 100L * h)) >= v) return h;
        }
        return -6;
    }

    int buys(int v, int what) {
        if (!in(v, 0, 9999) || !in(what, 0, 1)) return -2;
        int[] best = {0, 0};
        buy(0, v, 0, 0, best);
        return best[what];
    }

    private void buy(int lot, int purse, int cost, int bits, int[] best) {
        if (cost > purse) return;
        if (cost > best[0] || cost == best[0] && bits < best[1]) {
            best[0] = cost;
            best[1] = bits;
        }
        for (int next = lot; next < 8; next++) {
            if (things.get("owner " + next) == -1) buy(next + 1, purse, cost + things.get("price " + next), bits | 1 << next, best);
        }
    }

    int runs(int x, int g, int v) {
        if (!in(x, 1, 99999) || !in(g, 0, 99) || !in(v, 1, 100)) return -2;
        List<BigInteger> notes = new ArrayList<>(List.of(BigInteger.valueOf(x)));
        for (int month = 0; month < 100; month++) {
            BigInteger last = notes.get(month);
            BigInteger more = last.multiply(BigInteger.valueOf(g)).divide(BigInteger.valueOf(100));
            notes.add(last.add(more).add(BigInteger.valueOf(100L * (100 - rate(land(things), last)))));
        }
        for (int month = 0; month <= 100; month++) if (rate(land(things), notes.get(month)) < v) return month;
        return -6;
    }

    int wages(int prices, int n) {
        if (!in(prices, 0, 999999999) || !in(n, 0, 8)) return -2;
        String price = String.format("%09d", prices);
        String wage = "0".repeat(n) + price;
        int lost = 0;
        for (int i = 0; i < 9; i++) if (price.charAt(i) > wage.charAt(i)) lost += price.charAt(i) - wage.charAt(i);
        return lost;
    }

    /** The mean as an upper number over 10 to the power of m. */
    private static BigInteger mean(int v, int m, int t, boolean mayChange) {
        BigInteger now = BigInteger.valueOf(v).multiply(BigInteger.TEN.pow(m));
        if (m == 0) return now;
        BigInteger less = mean(Math.max(0, v - 3), m - 1, t, true).multiply(BigInteger.valueOf(t));
        BigInteger wait = mean(v + 1, m - 1, t, true).multiply(BigInteger.valueOf(10 - t)).add(less);
        return mayChange ? now.max(wait) : wait;
    }

    private static long part(BigInteger upper, BigInteger lower, int part) {
        BigInteger common = upper.gcd(lower);
        return (part == 0 ? upper : lower).divide(common).longValueExact();
    }

    long change(int v, int m, int t, int what, int part) {
        if (!in(v, 0, 60) || !in(m, 0, 8) || !in(t, 0, 10) || !in(what, 0, 1) || !in(part, 0, 1)) return Check.GONE - 2;
        BigInteger now = BigInteger.valueOf(v).multiply(BigInteger.TEN.pow(m));
        if (what == 1) return m == 0 || now.compareTo(mean(v, m, t, false)) >= 0 ? 1 : 0;
        return part(mean(v, m, t, true), BigInteger.TEN.pow(m), part);
    }

    /** Draws one by one: the ways, in order, to have j forged among k of n. */
    private static BigInteger ways(int sound, int forged, int k, int j) {
        BigInteger[] row = new BigInteger[j + 1];
        for (int i = 0; i <= j; i++) row[i] = i == 0 ? BigInteger.ONE : BigInteger.ZERO;
        for (int drawn = 0; drawn < k; drawn++) {
            for (int i = j; i >= 0; i--) {
                BigInteger soundNext = row[i].multiply(BigInteger.valueOf(Math.max(0, sound - (drawn - i))));
                BigInteger forgedNext = i == 0 ? BigInteger.ZERO : row[i - 1].multiply(BigInteger.valueOf(Math.max(0, forged - (i - 1))));
                row[i] = soundNext.add(forgedNext);
            }
        }
        return row[j];
    }

    long sample(int n, int f, int k, int j, int part) {
        if (!in(n, 1, 30) || !in(f, 0, n) || !in(k, 0, n) || !in(j, 0, k) || !in(part, 0, 1)) return Check.GONE - 2;
        return part(ways(n - f, f, k, j), ways(n, 0, k, 0), part);
    }

    int seen(int chests, int many, int how) {
        if (!in(chests, 0, 255) || !in(many, 0, 8) || !in(how, 0, 1)) return -2;
        if (sights.size() == 8) return -4;
        sights.add(new int[] {chests, many, how});
        return sights.size();
    }

    int forget() {
        int n = sights.size();
        sights.clear();
        return n;
    }

    private List<Integer> fitting(int d) {
        List<Integer> sets = new ArrayList<>();
        for (int set = 0; set < 256; set++) {
            boolean fits = Integer.toBinaryString(set).replace("0", "").length() <= d;
            for (int[] sight : sights) {
                int truly = 0;
                for (int c = 0; c < 8; c++) if ((sight[0] & 1 << c) != 0 && (set & 1 << c) == 0) truly++;
                fits = fits && (sight[2] == 0 ? truly == sight[1] : truly >= sight[1]);
            }
            if (fits) sets.add(set);
        }
        return sets;
    }

    int clerks(int d, int i) {
        if (!in(d, 0, 3)) return -2;
        List<Integer> sets = fitting(d);
        if (i == -1) return sets.size();
        return in(i, 0, sets.size() - 1) ? sets.get(i) : -6;
    }

    int count(int d, int what) {
        if (!in(d, 0, 3) || !in(what, 0, 1)) return -2;
        List<Integer> sets = fitting(d);
        if (sets.isEmpty()) return -6;
        int[] best = {-1, 999};
        for (int c = 7; c >= 0; c--) {
            int chest = c;
            int with = (int) sets.stream().filter(set -> (set >> chest) % 2 == 1).count();
            int left = Math.max(with, sets.size() - with);
            if (left <= best[1]) best = new int[] {c, left};
        }
        return best[what];
    }

    int year(int seed, int m, int what) {
        if (!in(seed, 0, 9999) || !in(m, 1, 99) || !in(what, 0, 2)) return -2;
        TreeMap<String, Integer> of = new TreeMap<>(things);
        long x = seed;
        for (int i = 0; i < m; i++) {
            x = (75 * x + 74) % 65537;
            char who = letter((int) (x % 6));
            long y = x / 48;
            String digit = String.valueOf(1 + y % 9);
            String buy = who + "$" + y % 8;
            String[] acts = {"+" + digit, who + "@" + digit, buy, buy, who + "/" + digit, who + ">" + letter((int) (y % 6)),
                "!" + who + digit, "."};
            act(of, acts[(int) (x / 6 % 8)]);
        }
        int stateLots = 0;
        for (int lot = 0; lot < 8; lot++) if (of.get("owner " + lot) == -1) stateLots++;
        return new int[] {notes(of), rate(of), stateLots}[what];
    }

    int image(int k) {
        if (!in(k, 0, 1)) return -2;
        keptThings.set(k, new TreeMap<>(things));
        keptSights.set(k, new ArrayList<>(sights));
        return 1;
    }

    int restore(int k) {
        if (!in(k, 0, 1)) return -2;
        if (keptThings.get(k).isEmpty()) return -3;
        things = new TreeMap<>(keptThings.get(k));
        sights = new ArrayList<>(keptSights.get(k));
        return 1;
    }

    int told(int what) {
        int digit = what % 10;
        if (in(what, 0, 8)) {
            return new int[] {pad.length(), things.get("state"), things.get("forged"), things.get("burnt"), things.get("months"),
                sights.size(), notes(things), land(things), rate(things)}[what];
        }
        for (int one = 0; one < 6; one++) {
            if (what == 10 * (1 + one)) return things.get(letter(one) + " paper");
            if (what == 10 * (1 + one) + 1) return things.get(letter(one) + " coin");
            if (what == 10 * (1 + one) + 2) return lots(things, one);
            if (what / 10 == 20 + one && digit < 6) return things.get(letter(one) + " owes " + letter(digit));
        }
        for (int lot = 0; lot < 8; lot++) {
            if (what == 100 + 10 * lot) return things.get("price " + lot);
            if (what == 101 + 10 * lot) return things.get("owner " + lot) == -1 ? -6 : things.get("owner " + lot);
        }
        return -2;
    }
}
