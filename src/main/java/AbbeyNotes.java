/** Notes printed against church land: who has what, what paper is worth, and what may come of it. */
public final class AbbeyNotes {
    public static final int UNKNOWN = -1, OUTSIDE = -2, STATE = -3, FULL = -4, NO = -5, NONE = -6;
    public static final long GONE = -1000000000000000000L;

    private static final int ONES = 6;
    private static final int LOTS = 8;
    private static final int CHESTS = 8;
    private static final int SIGNS = 60;
    private static final int SIGHTS = 8;
    private static final int IMAGES = 2;
    private static final int OF_STATE = -1;
    private static final int MOST_HELD = 9999;
    private static final int MOST_OWED = 999;
    private static final int MOST_PRICE = 999;
    private static final int MOST_OF_STATE = 99999;
    private static final int LAST_MONTH = 99;
    private static final int PAR = 100;
    private static final int MOST_PRINTED = 999;
    private static final int RUN_MONTHS = 100;
    private static final int WAGE_MONTHS = 9;
    private static final int MOST_CHANGE_RATE = 60;
    private static final int MOST_CHANGE_MONTHS = 8;
    private static final int MOST_UNTRUE = 3;

    /** The kinds of ACT, numbered as a YEAR draws them (3 is a purchase, too). */
    private static final int PRINT = 0, PAID = 1, BUY = 2, BUY_TOO = 3, EXCHANGE = 4, SETTLE = 5, FORGE = 6, END = 7;

    /** Why an ACT can not be; CAN_BE: it can. */
    private static final int CAN_BE = 0, BOTH_ONE = 1, NOT_FOR_SALE = 2, TOO_LITTLE = 3, NOTHING_TO_PAY = 4,
            TOO_MUCH = 5, TOO_LATE = 6;

    private final Realm now = new Realm();
    private final Sights sights = new Sights();
    private final Pad pad = new Pad();
    private final Trial trial = new Trial();
    private final Settling settling = new Settling();
    private final Waiting waiting = new Waiting();
    private final Image[] images = new Image[IMAGES];

    public AbbeyNotes() {
        for (int k = 0; k < IMAGES; k++) {
            images[k] = new Image();
        }
    }

    // ---- 1 people, land, the state

    public int one(int one, int paper, int coin) {
        if (!isOne(one)) {
            return UNKNOWN;
        }
        if (!within(paper, 0, MOST_HELD) || !within(coin, 0, MOST_HELD)) {
            return OUTSIDE;
        }
        int before = 10000 * now.paper[one] + now.coin[one];
        now.paper[one] = paper;
        now.coin[one] = coin;
        return before;
    }

    public int owe(int one, int other, int v) {
        if (!isOne(one) || !isOne(other) || one == other) {
            return UNKNOWN;
        }
        if (!within(v, 0, MOST_OWED)) {
            return OUTSIDE;
        }
        int before = now.owes[one][other];
        now.owes[one][other] = v;
        return before;
    }

    public int lot(int lot, int price, int one) {
        if (!within(lot, 0, LOTS - 1) || one != OF_STATE && !isOne(one)) {
            return UNKNOWN;
        }
        if (!within(price, 1, MOST_PRICE)) {
            return OUTSIDE;
        }
        int before = now.price[lot];
        now.price[lot] = price;
        now.owner[lot] = one;
        return before;
    }

    public int set(int which, int v) {
        if (!within(which, 0, 1) || !within(v, 0, MOST_OF_STATE)) {
            return OUTSIDE;
        }
        int before;
        if (which == 0) {
            before = now.statePaper;
            now.statePaper = v;
        } else {
            before = now.forged;
            now.forged = v;
        }
        return before;
    }

    public int say(int sign) {
        if (!within(sign, 33, 126)) {
            return OUTSIDE;
        }
        if (pad.size == SIGNS) {
            return FULL;
        }
        pad.add(sign);
        return pad.size;
    }

    public int wipe() {
        int before = pad.size;
        pad.size = 0;
        return before;
    }

    public int fault() {
        return pad.faultPlace();
    }

    // ---- 2 months

    public int judge(int what) {
        if (!within(what, 0, 2)) {
            return OUTSIDE;
        }
        int refusal = tryMonths(0);
        if (refusal == NO || what == 2 && refusal == STATE) {
            return refusal;
        }
        if (what == 2) {
            return trial.ended;
        }
        if (trial.why == CAN_BE) {
            return NONE;
        }
        return what == 0 ? trial.acts : trial.why;
    }

    public int behind(int one, int what) {
        if (!isOne(one)) {
            return UNKNOWN;
        }
        if (!within(what, 0, 3)) {
            return OUTSIDE;
        }
        int refusal = tryMonths(0);
        return refusal != 0 ? refusal : trial.realm.ofOne(one, what);
    }

    public int total(int what) {
        if (!within(what, 0, 5)) {
            return OUTSIDE;
        }
        int refusal = tryMonths(0);
        if (refusal != 0) {
            return refusal;
        }
        switch (what) {
            case 0:
                return trial.realm.notes();
            case 1:
                return trial.realm.land();
            case 2:
                return trial.realm.rate();
            case 3:
                return trial.realm.burnt;
            case 4:
                return trial.realm.forged;
            default:
                return trial.realm.months;
        }
    }

    public int fell(int v) {
        if (!within(v, 0, PAR)) {
            return OUTSIDE;
        }
        int refusal = tryMonths(v);
        return refusal != 0 ? refusal : trial.fellIn;
    }

    public int done() {
        int refusal = tryMonths(0);
        if (refusal != 0) {
            return refusal;
        }
        now.copyFrom(trial.realm);
        pad.size = 0;
        return trial.acts;
    }

    public int struck(int what) {
        if (!within(what, 0, 1)) {
            return OUTSIDE;
        }
        settling.weigh(now);
        return what == 0 ? settling.fewestPayments() : settling.leastPaid();
    }

    /** Runs the PAD on a copy, which stays in the trial: 0, or the refusal. */
    private int tryMonths(int v) {
        if (pad.faultPlace() != NONE) {
            return NO;
        }
        trial.follow(pad, now, v);
        return trial.why == CAN_BE ? 0 : STATE;
    }

    // ---- 3 printing, buying, waiting

    public int prints(int v) {
        if (!within(v, 1, PAR)) {
            return OUTSIDE;
        }
        // RATE, cut, is v or more just as long as v times NOTES is not above 100 times LAND.
        int mostNotes = PAR * now.land() / v;
        int notes = now.notes();
        return notes > mostNotes ? NONE : Math.min(MOST_PRINTED, (mostNotes - notes) / 100);
    }

    public int buys(int v, int what) {
        if (!within(v, 0, MOST_HELD) || !within(what, 0, 1)) {
            return OUTSIDE;
        }
        int forSale = now.lotsOf(OF_STATE);
        int most = 0;
        int which = 0;
        for (int set = 1; set < 1 << LOTS; set++) {
            if ((set & ~forSale) == 0) {
                int cost = now.priceOf(set);
                if (cost <= v && cost > most) {
                    most = cost;
                    which = set;
                }
            }
        }
        return what == 0 ? most : which;
    }

    public int runs(int x, int g, int v) {
        if (!within(x, 1, MOST_OF_STATE) || !within(g, 0, 99) || !within(v, 1, PAR)) {
            return OUTSIDE;
        }
        int land = now.land();
        // NOTES stay small: they are 100 times LAND at the most while RATE is not yet 0.
        int notes = x;
        for (int month = 0; month <= RUN_MONTHS; month++) {
            int rate = rateOf(land, notes);
            if (rate < v) {
                return month;
            }
            notes += notes * g / 100 + 100 * (PAR - rate);
        }
        return NONE;
    }

    public int wages(int prices, int n) {
        if (!within(prices, 0, 999999999) || !within(n, 0, WAGE_MONTHS - 1)) {
            return OUTSIDE;
        }
        int power = 1;
        for (int i = 0; i < n; i++) {
            power *= 10;
        }
        // Cutting n digits off the end moves each price to the month that is paid by it.
        int rest = prices;
        int paid = prices / power;
        int lost = 0;
        for (int month = 0; month < WAGE_MONTHS; month++) {
            lost += Math.max(0, rest % 10 - paid % 10);
            rest /= 10;
            paid /= 10;
        }
        return lost;
    }

    public long change(int v, int m, int t, int what, int part) {
        if (!within(v, 0, MOST_CHANGE_RATE) || !within(m, 0, MOST_CHANGE_MONTHS) || !within(t, 0, 10)
                || !within(what, 0, 1) || !within(part, 0, 1)) {
            return GONE + OUTSIDE;
        }
        long scale = 1;
        for (int i = 0; i < m; i++) {
            scale *= 10;
        }
        long mean = waiting.scaledMean(v, m, t);
        if (what == 1) {
            return mean == v * scale ? 1 : 0;
        }
        return lowest(mean, scale, part);
    }

    // ---- 4 forgers, clerks

    public long sample(int n, int f, int k, int j, int part) {
        if (!within(n, 1, 30) || !within(f, 0, n) || !within(k, 0, n) || !within(j, 0, k) || !within(part, 0, 1)) {
            return GONE + OUTSIDE;
        }
        return lowest(choices(f, j) * choices(n - f, k - j), choices(n, k), part);
    }

    public int seen(int chests, int many, int how) {
        if (!within(chests, 0, (1 << CHESTS) - 1) || !within(many, 0, CHESTS) || !within(how, 0, 1)) {
            return OUTSIDE;
        }
        if (sights.size == SIGHTS) {
            return FULL;
        }
        sights.add(chests, many, how);
        return sights.size;
    }

    public int forget() {
        int before = sights.size;
        sights.size = 0;
        return before;
    }

    public int clerks(int d, int i) {
        if (!within(d, 0, MOST_UNTRUE)) {
            return OUTSIDE;
        }
        int fitting = 0;
        for (int set = 0; set < 1 << CHESTS; set++) {
            if (sights.fit(set, d)) {
                if (fitting == i) {
                    return set;
                }
                fitting++;
            }
        }
        return i == -1 ? fitting : NONE;
    }

    public int count(int d, int what) {
        if (!within(d, 0, MOST_UNTRUE) || !within(what, 0, 1)) {
            return OUTSIDE;
        }
        int fitting = sights.tally(d);
        if (fitting == 0) {
            return NONE;
        }
        int chest = 0;
        for (int c = 1; c < CHESTS; c++) {
            if (sights.mostLeft(c, fitting) < sights.mostLeft(chest, fitting)) {
                chest = c;
            }
        }
        return what == 0 ? chest : sights.mostLeft(chest, fitting);
    }

    public int year(int seed, int m, int what) {
        if (!within(seed, 0, 9999) || !within(m, 1, 99) || !within(what, 0, 2)) {
            return OUTSIDE;
        }
        Realm realm = trial.realm;
        realm.copyFrom(now);
        int x = seed;
        for (int i = 0; i < m; i++) {
            x = (75 * x + 74) % 65537;
            int kind = x / 6 % 8;
            realm.act(kind, x % 6, drawnNumber(kind, x / 48));
        }
        switch (what) {
            case 0:
                return realm.notes();
            case 1:
                return realm.rate();
            default:
                return Integer.bitCount(realm.lotsOf(OF_STATE));
        }
    }

    public int image(int k) {
        if (!within(k, 0, IMAGES - 1)) {
            return OUTSIDE;
        }
        images[k].realm.copyFrom(now);
        images[k].sights.copyFrom(sights);
        images[k].kept = true;
        return 1;
    }

    public int restore(int k) {
        if (!within(k, 0, IMAGES - 1)) {
            return OUTSIDE;
        }
        if (!images[k].kept) {
            return STATE;
        }
        now.copyFrom(images[k].realm);
        sights.copyFrom(images[k].sights);
        return 1;
    }

    public int told(int what) {
        if (what < 0) {
            return OUTSIDE;
        }
        if (what < 10) {
            return toldOfAll(what);
        }
        int digit = what % 10;
        if (what < 100) {
            return toldOfOne(what / 10 - 1, digit);
        }
        if (what < 200) {
            return toldOfLot(what / 10 - 10, digit);
        }
        return toldOfDebt(what / 10 - 20, digit);
    }

    private int toldOfAll(int what) {
        switch (what) {
            case 0:
                return pad.size;
            case 1:
                return now.statePaper;
            case 2:
                return now.forged;
            case 3:
                return now.burnt;
            case 4:
                return now.months;
            case 5:
                return sights.size;
            case 6:
                return now.notes();
            case 7:
                return now.land();
            case 8:
                return now.rate();
            default:
                return OUTSIDE;
        }
    }

    private int toldOfOne(int who, int digit) {
        return isOne(who) && digit <= 2 ? now.ofOne(who, digit) : OUTSIDE;
    }

    private int toldOfLot(int which, int digit) {
        if (!within(which, 0, LOTS - 1) || digit > 1) {
            return OUTSIDE;
        }
        if (digit == 0) {
            return now.price[which];
        }
        return now.owner[which] == OF_STATE ? NONE : now.owner[which];
    }

    private int toldOfDebt(int debtor, int creditor) {
        return isOne(debtor) && isOne(creditor) ? now.owes[debtor][creditor] : OUTSIDE;
    }

    // ---- numbers

    private static boolean within(int v, int least, int most) {
        return v >= least && v <= most;
    }

    private static boolean isOne(int who) {
        return within(who, 0, ONES - 1);
    }

    private static int rateOf(int land, int notes) {
        return notes <= 0 ? PAR : Math.min(PAR, PAR * land / notes);
    }

    /** What a drawn ACT is told beside its ONE: a LOT, another ONE, or so many hundreds or tens. */
    private static int drawnNumber(int kind, int drawn) {
        if (kind == BUY || kind == BUY_TOO) {
            return drawn % LOTS;
        }
        return kind == SETTLE ? drawn % ONES : 1 + drawn % 9;
    }

    /** Ways to choose k of n, 0 if there are not so many. */
    private static long choices(int n, int k) {
        if (k < 0 || k > n) {
            return 0;
        }
        long ways = 1;
        for (int i = 1; i <= k; i++) {
            ways = ways * (n - k + i) / i;
        }
        return ways;
    }

    /** A part of the fraction in lowest terms. */
    private static long lowest(long upper, long lower, int part) {
        long a = lower;
        long b = upper;
        for (int i = 0; i < 200 && b != 0; i++) {
            long left = a % b;
            a = b;
            b = left;
        }
        if (a == 0) {
            return 0;
        }
        return (part == 0 ? upper : lower) / a;
    }

    /** All that ONES and the STATE have, and the ACTS that move it. */
    private static final class Realm {
        final int[] paper = new int[ONES];
        final int[] coin = new int[ONES];
        final int[][] owes = new int[ONES][ONES];
        final int[] price = new int[LOTS];
        final int[] owner = new int[LOTS];
        int statePaper;
        int forged;
        int burnt;
        int months;

        Realm() {
            for (int i = 0; i < ONES; i++) {
                paper[i] = 100;
                coin[i] = 100;
            }
            for (int i = 0; i < LOTS; i++) {
                price[i] = 100;
                owner[i] = OF_STATE;
            }
        }

        void copyFrom(Realm from) {
            System.arraycopy(from.paper, 0, paper, 0, ONES);
            System.arraycopy(from.coin, 0, coin, 0, ONES);
            for (int i = 0; i < ONES; i++) {
                System.arraycopy(from.owes[i], 0, owes[i], 0, ONES);
            }
            System.arraycopy(from.price, 0, price, 0, LOTS);
            System.arraycopy(from.owner, 0, owner, 0, LOTS);
            statePaper = from.statePaper;
            forged = from.forged;
            burnt = from.burnt;
            months = from.months;
        }

        int notes() {
            int sum = statePaper;
            for (int i = 0; i < ONES; i++) {
                sum += paper[i];
            }
            return sum;
        }

        int land() {
            int sum = 0;
            for (int i = 0; i < LOTS; i++) {
                if (owner[i] == OF_STATE) {
                    sum += price[i];
                }
            }
            return sum;
        }

        int rate() {
            return rateOf(land(), notes());
        }

        int priceOf(int lots) {
            int sum = 0;
            for (int i = 0; i < LOTS; i++) {
                if ((lots >> i & 1) == 1) {
                    sum += price[i];
                }
            }
            return sum;
        }

        int lotsOf(int whose) {
            int bits = 0;
            for (int i = 0; i < LOTS; i++) {
                if (owner[i] == whose) {
                    bits |= 1 << i;
                }
            }
            return bits;
        }

        int owesInAll(int who) {
            int sum = 0;
            for (int i = 0; i < ONES; i++) {
                sum += owes[who][i];
            }
            return sum;
        }

        int ofOne(int who, int what) {
            switch (what) {
                case 0:
                    return paper[who];
                case 1:
                    return coin[who];
                case 2:
                    return lotsOf(who);
                default:
                    return owesInAll(who);
            }
        }

        /** Does the ACT if it can be; answers why it can not. */
        int act(int kind, int who, int n) {
            switch (kind) {
                case PRINT:
                    return printed(100 * n);
                case PAID:
                    return paidByState(who, 100 * n);
                case BUY:
                case BUY_TOO:
                    return bought(who, n);
                case EXCHANGE:
                    return exchanged(who, 10 * n);
                case SETTLE:
                    return settled(who, n);
                case FORGE:
                    return forgedFor(who, 100 * n);
                default:
                    return monthEnded();
            }
        }

        private int printed(int sum) {
            if (statePaper + sum > MOST_OF_STATE) {
                return TOO_MUCH;
            }
            statePaper += sum;
            return CAN_BE;
        }

        private int paidByState(int who, int sum) {
            if (statePaper < sum) {
                return TOO_LITTLE;
            }
            if (paper[who] + sum > MOST_HELD) {
                return TOO_MUCH;
            }
            statePaper -= sum;
            paper[who] += sum;
            return CAN_BE;
        }

        private int bought(int who, int which) {
            if (owner[which] != OF_STATE) {
                return NOT_FOR_SALE;
            }
            if (paper[who] < price[which]) {
                return TOO_LITTLE;
            }
            paper[who] -= price[which];
            burnt += price[which];
            owner[which] = who;
            return CAN_BE;
        }

        private int exchanged(int who, int sum) {
            if (paper[who] < sum) {
                return TOO_LITTLE;
            }
            int worth = sum * rate() / PAR;
            if (statePaper + sum > MOST_OF_STATE || coin[who] + worth > MOST_HELD) {
                return TOO_MUCH;
            }
            paper[who] -= sum;
            statePaper += sum;
            coin[who] += worth;
            return CAN_BE;
        }

        private int settled(int who, int other) {
            if (who == other) {
                return BOTH_ONE;
            }
            int sum = Math.min(owes[who][other], paper[who]);
            if (sum == 0) {
                return NOTHING_TO_PAY;
            }
            if (paper[other] + sum > MOST_HELD) {
                return TOO_MUCH;
            }
            owes[who][other] -= sum;
            paper[who] -= sum;
            paper[other] += sum;
            return CAN_BE;
        }

        private int forgedFor(int who, int sum) {
            if (paper[who] + sum > MOST_HELD || forged + sum > MOST_OF_STATE) {
                return TOO_MUCH;
            }
            paper[who] += sum;
            forged += sum;
            return CAN_BE;
        }

        private int monthEnded() {
            if (months == LAST_MONTH) {
                return TOO_LATE;
            }
            months++;
            return CAN_BE;
        }
    }

    /** The signs of the text, and where they go wrong. */
    private static final class Pad {
        /** What must come next; ACT: an ACT may begin here. */
        private static final int ACT = 0, DIGIT = 1, FORGED_FOR = 2, DEED = 3, WHICH_LOT = 4, WHO = 5, WRONG = 6;

        private final int[] signs = new int[SIGNS];
        int size;

        void add(int sign) {
            if (size < SIGNS) {
                signs[size] = sign;
                size++;
            }
        }

        /** The sign at a place, 0 where there is none. */
        int signAt(int place) {
            return place >= 0 && place < size ? signs[place] : 0;
        }

        int faultPlace() {
            int next = ACT;
            for (int place = 0; place < size; place++) {
                next = nextBehind(next, signs[place]);
                if (next == WRONG) {
                    return place;
                }
            }
            return next == ACT ? NONE : size;
        }

        private static int nextBehind(int next, int sign) {
            switch (next) {
                case ACT:
                    return nextBehindFirst(sign);
                case DIGIT:
                    return within(sign, '1', '9') ? ACT : WRONG;
                case FORGED_FOR:
                    return isLetter(sign) ? DIGIT : WRONG;
                case DEED:
                    return nextBehindDeed(sign);
                case WHICH_LOT:
                    return within(sign, '0', '7') ? ACT : WRONG;
                default:
                    return isLetter(sign) ? ACT : WRONG;
            }
        }

        private static int nextBehindFirst(int sign) {
            switch (sign) {
                case '.':
                    return ACT;
                case '+':
                    return DIGIT;
                case '!':
                    return FORGED_FOR;
                default:
                    return isLetter(sign) ? DEED : WRONG;
            }
        }

        private static int nextBehindDeed(int sign) {
            switch (sign) {
                case '$':
                    return WHICH_LOT;
                case '>':
                    return WHO;
                case '/':
                case '@':
                    return DIGIT;
                default:
                    return WRONG;
            }
        }

        private static boolean isLetter(int sign) {
            return within(sign, 'A', 'F');
        }
    }

    /** A text without a FAULT, followed on a copy of all up to the first ACT that can not be. */
    private static final class Trial {
        final Realm realm = new Realm();
        int acts;
        int why;
        int ended;
        int fellIn;
        /** The ACT that is read: its kind, its ONE, its number (or other ONE), its signs. */
        private int kind;
        private int who;
        private int number;
        private int length;

        /** Follows the text; fellIn is the first of its months that ended with RATE below v. */
        void follow(Pad pad, Realm from, int v) {
            realm.copyFrom(from);
            why = CAN_BE;
            ended = 0;
            fellIn = NONE;
            int place = 0;
            for (acts = 0; acts < SIGNS && place < pad.size; acts++) {
                read(pad, place);
                why = realm.act(kind, who, number);
                if (why != CAN_BE) {
                    return;
                }
                if (kind == END) {
                    endMonth(v);
                }
                place += length;
            }
        }

        private void endMonth(int v) {
            if (fellIn == NONE && realm.rate() < v) {
                fellIn = ended;
            }
            ended++;
        }

        private void read(Pad pad, int place) {
            int first = pad.signAt(place);
            int second = pad.signAt(place + 1);
            kind = kindOf(first, second);
            length = kind == END ? 1 : kind == PRINT ? 2 : 3;
            who = length < 3 ? 0 : (kind == FORGE ? second : first) - 'A';
            number = pad.signAt(place + length - 1) - (kind == SETTLE ? 'A' : '0');
        }

        private static int kindOf(int first, int second) {
            switch (first) {
                case '.':
                    return END;
                case '+':
                    return PRINT;
                case '!':
                    return FORGE;
                default:
                    return kindOfDeed(second);
            }
        }

        private static int kindOfDeed(int sign) {
            switch (sign) {
                case '$':
                    return BUY;
                case '/':
                    return EXCHANGE;
                case '>':
                    return SETTLE;
                default:
                    return PAID;
            }
        }
    }

    /** Debts of all to all, struck off at once. */
    private static final class Settling {
        /** What is due to each ONE, less what he OWES. */
        private final int[] due = new int[ONES];
        /** By a set of ONES: into how many groups that owe nothing outside it falls at the most. */
        private final int[] groups = new int[1 << ONES];

        void weigh(Realm realm) {
            for (int i = 0; i < ONES; i++) {
                due[i] = -realm.owesInAll(i);
                for (int k = 0; k < ONES; k++) {
                    due[i] += realm.owes[k][i];
                }
            }
        }

        int leastPaid() {
            int sum = 0;
            for (int i = 0; i < ONES; i++) {
                sum += Math.max(0, due[i]);
            }
            return sum;
        }

        /** A group that settles within itself wants one payment fewer than it has ONES. */
        int fewestPayments() {
            int all = (1 << ONES) - 1;
            groups[0] = 0;
            for (int set = 1; set <= all; set++) {
                int most = 0;
                for (int i = 0; i < ONES; i++) {
                    if ((set >> i & 1) == 1) {
                        most = Math.max(most, groups[set & ~(1 << i)]);
                    }
                }
                groups[set] = dueTo(set) == 0 ? most + 1 : most;
            }
            return ONES - groups[all];
        }

        private int dueTo(int set) {
            int sum = 0;
            for (int i = 0; i < ONES; i++) {
                if ((set >> i & 1) == 1) {
                    sum += due[i];
                }
            }
            return sum;
        }
    }

    /** When to change PAPER, worked out from the last month back. */
    private static final class Waiting {
        private static final int RATES = MOST_CHANGE_RATE + MOST_CHANGE_MONTHS + 1;

        /** By RATE: the mean with so many months to come, times 10 to the power of these. */
        private final long[][] means = new long[2][RATES];

        long scaledMean(int v, int m, int t) {
            long[] later = means[0];
            long[] here = means[1];
            for (int rate = 0; rate <= v + m; rate++) {
                later[rate] = rate;
            }
            long scale = 1;
            for (int left = 1; left <= m; left++) {
                scale *= 10;
                for (int rate = 0; rate <= v + m - left; rate++) {
                    long wait = t * later[Math.max(0, rate - 3)] + (10 - t) * later[rate + 1];
                    here[rate] = Math.max(rate * scale, wait);
                }
                long[] other = later;
                later = here;
                here = other;
            }
            return later[v];
        }
    }

    /** What was seen of the chests, and the sets of clerks that fit it. */
    private static final class Sights {
        private final int[] chests = new int[SIGHTS];
        private final int[] many = new int[SIGHTS];
        private final int[] how = new int[SIGHTS];
        /** By chest: in how many of the sets that fit it was not burnt truly. */
        private final int[] untrue = new int[CHESTS];
        int size;

        void add(int set, int number, int way) {
            if (size < SIGHTS) {
                chests[size] = set;
                many[size] = number;
                how[size] = way;
                size++;
            }
        }

        void copyFrom(Sights from) {
            System.arraycopy(from.chests, 0, chests, 0, SIGHTS);
            System.arraycopy(from.many, 0, many, 0, SIGHTS);
            System.arraycopy(from.how, 0, how, 0, SIGHTS);
            size = from.size;
        }

        /** Whether the set of chests that were not burnt truly is of d at the most, and all SIGHTS are so by it. */
        boolean fit(int set, int d) {
            if (Integer.bitCount(set) > d) {
                return false;
            }
            for (int i = 0; i < size; i++) {
                int truly = Integer.bitCount(chests[i] & ~set);
                if (truly < many[i] || how[i] == 0 && truly > many[i]) {
                    return false;
                }
            }
            return true;
        }

        /** Counts the sets that fit, and how often each chest is in them. */
        int tally(int d) {
            for (int c = 0; c < CHESTS; c++) {
                untrue[c] = 0;
            }
            int fitting = 0;
            for (int set = 0; set < 1 << CHESTS; set++) {
                if (fit(set, d)) {
                    fitting++;
                    for (int c = 0; c < CHESTS; c++) {
                        untrue[c] += set >> c & 1;
                    }
                }
            }
            return fitting;
        }

        /** How many sets are left at the most once the chest has been looked at. */
        int mostLeft(int chest, int fitting) {
            return Math.max(untrue[chest], fitting - untrue[chest]);
        }
    }

    /** All but the PAD, as it was kept. */
    private static final class Image {
        final Realm realm = new Realm();
        final Sights sights = new Sights();
        boolean kept;
    }
}
