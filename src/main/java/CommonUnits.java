/**
 * A search for the units by which old coins were struck: a coin weighs a small multiple of a unit,
 * less what wear may have taken.
 *
 * <p>All rows are made once and used again by every call, so that a long run of calls makes nothing
 * new. No call throws: each looks at its arguments first and answers an error number.
 */
public final class CommonUnits {
    public static final int UNKNOWN = -1, OUTSIDE = -2, STATE = -3, FULL = -4, NONE = -9;

    private static final int MOST_COINS = 12;
    private static final int MOST_MINTS = 3;
    private static final int MOST_MULTIPLE = 12;
    private static final int MOST_SIGNS = 130;
    private static final int MOST_UNDONE = 14;
    private static final int MOST_SEEN = 6;
    private static final int MOST_DRAWN = 20;
    private static final int MOST_STEPS = 3;
    private static final int SLOTS = 2;

    /** The greatest unit, which is the greatest weight of a coin in the hoard, too. */
    private static final int LAST_UNIT = 999;
    private static final int LAST_YEAR = 9;
    private static final int LAST_RATE = 9;
    private static final int LAST_LAW = 2;

    /** What an act changes. */
    private static final int WEIGHT = 0, YEARS = 1, ASIDE = 2, UNIT = 3, RATE = 4, LAW = 5;

    /** Why a coin does not fit a unit. */
    private static final int FITS = 0, LIGHT = 1, HEAVY = 2, BETWEEN = 3;

    /**
     * The lack of a coin that does not fit; that of a coin that fits is its loss. It is greater than
     * the losses of all coins together (12 * 182), so the smaller sum of lacks has more coins that
     * fit, or as many with smaller losses: one number compares both.
     */
    private static final int MISS = 4096;

    /** Shares and chances go through all sets of coins, so these must be few. */
    private static final int CROWD_COINS = 8;
    private static final int CROWD_SETS = 1 << CROWD_COINS;
    private static final int[] FACTORIALS = {1, 1, 2, 6, 24, 120, 720, 5040, 40320};

    /** Ten to the six digits of a step of judge(). */
    private static final long STEP_SIZE = 1000000L;

    private final Text text = new Text();
    private final Hoard now = new Hoard();
    private final Hoard spare = new Hoard();
    private final Acts acts = new Acts();
    private final Crowd crowd = new Crowd();
    private final Sightings sightings = new Sightings();
    private final Hoard[] slots = new Hoard[SLOTS];
    private final boolean[] filled = new boolean[SLOTS];
    /** By far the greatest part of the object, so it is made, once, only when a question needs it. */
    private Survey survey;
    private long state;

    public CommonUnits() {
        for (int slot = 0; slot < SLOTS; slot++) {
            slots[slot] = new Hoard();
        }
    }

    // ---- the hoard

    public int write(int letter) {
        return letter < 0 || letter > 255 ? OUTSIDE : text.append(letter);
    }

    public int wipe() {
        int before = text.length;
        text.length = 0;
        return before;
    }

    public int fault() {
        return text.readInto(spare);
    }

    public int hoard() {
        if (text.readInto(spare) != NONE) {
            return STATE;
        }
        now.copyFrom(spare);
        acts.forget();
        for (int slot = 0; slot < SLOTS; slot++) {
            filled[slot] = false;
        }
        return now.coins;
    }

    public int coin(int coin, int what) {
        if (!now.hasCoin(coin)) {
            return UNKNOWN;
        }
        switch (what) {
            case 0:
                return now.weights[coin];
            case 1:
                return now.years[coin];
            case 2:
                return now.wearOf(coin);
            case 3:
                return now.asides[coin];
            case 4:
                return now.mintOf(coin);
            case 5:
                return now.mintsThatFit(coin);
            default:
                return OUTSIDE;
        }
    }

    public int mint(int mint, int what) {
        if (!now.hasMint(mint)) {
            return UNKNOWN;
        }
        switch (what) {
            case 0:
                return now.units[mint];
            case 1:
                return now.setOfMint(mint);
            case 2:
                return Integer.bitCount(now.setOfMint(mint));
            case 3:
                return now.lossesOf(now.setOfMint(mint), now.units[mint]);
            default:
                return OUTSIDE;
        }
    }

    // ---- acts

    public int clean(int coin, int weight) {
        return act(WEIGHT, coin, weight);
    }

    public int date(int coin, int years) {
        return act(YEARS, coin, years);
    }

    public int aside(int coin) {
        if (!now.hasCoin(coin)) {
            return UNKNOWN;
        }
        return 1 - act(ASIDE, coin, 1 - now.asides[coin]);
    }

    public int strike(int mint, int unit) {
        return act(UNIT, mint, unit);
    }

    public int setRate(int v) {
        return act(RATE, 0, v);
    }

    public int setLaw(int v) {
        return act(LAW, 0, v);
    }

    public int undo() {
        if (acts.size == 0) {
            return STATE;
        }
        acts.takeBack(now);
        return acts.size;
    }

    /** Values are never negative, so a negative answer is an error, and no act. */
    private int act(int kind, int index, int value) {
        int before = now.put(kind, index, value);
        if (before >= 0) {
            acts.add(kind, index, before);
        }
        return before;
    }

    // ---- what fits

    public int fits(int coin, int unit, int what) {
        if (!now.hasCoin(coin)) {
            return UNKNOWN;
        }
        if (!Fit.isUnit(unit)) {
            return OUTSIDE;
        }
        int weight = now.weights[coin];
        int wear = now.wearOf(coin);
        int loss = Fit.loss(weight, wear, unit);
        switch (what) {
            case 0:
                return loss == NONE ? NONE : Fit.multiple(weight, unit);
            case 1:
                return loss;
            case 2:
                return Fit.reason(weight, wear, unit);
            case 3:
                return Fit.excess(weight, wear, unit);
            default:
                return OUTSIDE;
        }
    }

    public int chain(int coin, int k) {
        if (!now.hasCoin(coin)) {
            return UNKNOWN;
        }
        if (k < 0) {
            return OUTSIDE;
        }
        int mint = now.mints - 1 - k;
        if (now.mintOf(coin) != NONE || !now.hasMint(mint)) {
            return NONE;
        }
        return Fit.reason(now.weights[coin], now.wearOf(coin), now.units[mint]);
    }

    public int unit(int unit, int what) {
        if (!Fit.isUnit(unit)) {
            return OUTSIDE;
        }
        switch (what) {
            case 0:
                return Integer.bitCount(now.explainedBy(unit));
            case 1:
                return now.explainedBy(unit);
            case 2:
                return now.lossesOf(now.explainedBy(unit), unit);
            case 3:
                return surveyNow().rankOf(unit);
            default:
                return OUTSIDE;
        }
    }

    public int ranked(int rank) {
        return surveyNow().unitOfRank(rank);
    }

    public int pair(int what) {
        if (what < 0 || what > 3) {
            return OUTSIDE;
        }
        Survey units = surveyNow();
        units.findPair();
        switch (what) {
            case 0:
                return units.lower;
            case 1:
                return units.upper;
            case 2:
                return now.explainedBy(units.lower) | now.explainedBy(units.upper);
            default:
                return units.pairLack % MISS;
        }
    }

    private Survey surveyNow() {
        if (survey == null) {
            survey = new Survey();
        }
        survey.look(now);
        return survey;
    }

    public int judge(int n, long row) {
        if (n < 1 || n > MOST_STEPS) {
            return OUTSIDE;
        }
        long size = 1;
        for (int k = 0; k < n; k++) {
            size *= STEP_SIZE;
        }
        if (row < 0 || row >= size) {
            return OUTSIDE;
        }
        spare.copyFrom(now);
        long rest = row;
        for (int k = 0; k < n; k++) {
            size = Math.max(1, size / STEP_SIZE);
            if (!Steps.holds(spare, (int) (rest / size))) {
                return k;
            }
            rest %= size;
        }
        return NONE;
    }

    // ---- seen

    public int see(int coin, int was) {
        if (!now.hasCoin(coin)) {
            return UNKNOWN;
        }
        return was < 0 || was > 1 ? OUTSIDE : sightings.add(coin, was);
    }

    public int unsee() {
        int before = sightings.size;
        sightings.size = 0;
        return before;
    }

    public int which(int what) {
        if (what < 0 || what > 2) {
            return OUTSIDE;
        }
        int units = 0;
        int smallest = NONE;
        int greatest = NONE;
        for (int unit = 1; unit <= LAST_UNIT; unit++) {
            if (sightings.agreeWith(now, unit)) {
                units++;
                smallest = smallest == NONE ? unit : smallest;
                greatest = unit;
            }
        }
        return what == 0 ? units : what == 1 ? smallest : greatest;
    }

    // ---- shares, chances

    public int share(int coin, boolean upper) {
        if (!now.hasCoin(coin)) {
            return UNKNOWN;
        }
        if (!now.counts(coin) || now.counted() > CROWD_COINS) {
            return STATE;
        }
        crowd.gather(surveyNow(), now.counted());
        return crowd.shareOf(now.placeOf(coin), upper);
    }

    public int lost(int x, boolean upper) {
        if (x < 0 || x > 10) {
            return OUTSIDE;
        }
        if (now.counted() > CROWD_COINS) {
            return STATE;
        }
        crowd.gather(surveyNow(), now.counted());
        return crowd.chanceOfUnit(x, upper);
    }

    public long seed(long v) {
        long before = state;
        state = v;
        return before;
    }

    public int drawn(int m) {
        if (m < 1 || m > MOST_DRAWN) {
            return OUTSIDE;
        }
        int recognized = 0;
        for (int k = 0; k < m; k++) {
            state = state * 6364136223846793005L + 1442695040888963407L;
            if (now.recognizes((int) (state >>> 33))) {
                recognized++;
            }
        }
        return recognized;
    }

    // ---- slots

    public int keep(int slot) {
        if (slot < 0 || slot >= SLOTS) {
            return UNKNOWN;
        }
        slots[slot].copyFrom(now);
        filled[slot] = true;
        return now.coins;
    }

    public int again(int slot) {
        if (slot < 0 || slot >= SLOTS) {
            return UNKNOWN;
        }
        if (!filled[slot]) {
            return STATE;
        }
        now.copyFrom(slots[slot]);
        acts.forget();
        return now.coins;
    }

    public int count(int what) {
        switch (what) {
            case 0:
                return text.length;
            case 1:
                return now.coins;
            case 2:
                return now.mints;
            case 3:
                return now.rate;
            case 4:
                return now.law;
            case 5:
                return now.setAside();
            case 6:
                return now.setOfMint(NONE);
            case 7:
                return acts.size;
            case 8:
                return sightings.size;
            default:
                return OUTSIDE;
        }
    }

    /** How one weight lies to one unit; the wear is the greatest that such a coin can have. */
    private static final class Fit {
        static boolean isUnit(int unit) {
            return unit >= 1 && unit <= LAST_UNIT;
        }

        /** The smallest multiple of the unit that is not below the weight, however great. */
        static int multiple(int weight, int unit) {
            return unit < 1 ? MOST_MULTIPLE + 1 : (weight + unit - 1) / unit;
        }

        static int loss(int weight, int wear, int unit) {
            int multiple = multiple(weight, unit);
            if (multiple > MOST_MULTIPLE) {
                return NONE;
            }
            int loss = multiple * unit - weight;
            return loss <= wear ? loss : NONE;
        }

        static int reason(int weight, int wear, int unit) {
            if (loss(weight, wear, unit) != NONE) {
                return FITS;
            }
            if (MOST_MULTIPLE * unit < weight) {
                return LIGHT;
            }
            return unit > weight + wear ? HEAVY : BETWEEN;
        }

        static int excess(int weight, int wear, int unit) {
            int reason = reason(weight, wear, unit);
            if (reason == FITS) {
                return 0;
            }
            if (reason == LIGHT) {
                return weight - MOST_MULTIPLE * unit;
            }
            return multiple(weight, unit) * unit - weight - wear;
        }

        static int lack(int weight, int wear, int unit) {
            int loss = loss(weight, wear, unit);
            return loss == NONE ? MISS : loss;
        }
    }

    /** Coins, mints, the rate and the wear rule: all that acts change and slots keep. */
    private static final class Hoard {
        final int[] weights = new int[MOST_COINS];
        final int[] years = new int[MOST_COINS];
        /** 1 for a coin that is aside, otherwise 0. */
        final int[] asides = new int[MOST_COINS];
        final int[] units = new int[MOST_MINTS];
        int coins;
        int mints;
        int rate = 1;
        int law;

        void copyFrom(Hoard other) {
            for (int coin = 0; coin < MOST_COINS; coin++) {
                weights[coin] = other.weights[coin];
                years[coin] = other.years[coin];
                asides[coin] = other.asides[coin];
            }
            for (int mint = 0; mint < MOST_MINTS; mint++) {
                units[mint] = other.units[mint];
            }
            coins = other.coins;
            mints = other.mints;
            rate = other.rate;
            law = other.law;
        }

        void start(int newRate, int newLaw) {
            coins = 0;
            mints = 0;
            rate = newRate;
            law = newLaw;
        }

        void addCoin(int weight, int age) {
            if (coins < MOST_COINS) {
                weights[coins] = weight;
                years[coins] = age;
                asides[coins] = 0;
                coins++;
            }
        }

        void addMint(int unit) {
            if (mints < MOST_MINTS) {
                units[mints] = unit;
                mints++;
            }
        }

        boolean hasCoin(int coin) {
            return coin >= 0 && coin < coins;
        }

        boolean hasMint(int mint) {
            return mint >= 0 && mint < mints;
        }

        /** Whether there is such a coin and it is not aside. */
        boolean counts(int coin) {
            return hasCoin(coin) && asides[coin] == 0;
        }

        int counted() {
            return placeOf(coins);
        }

        /** How many coins that are not aside stand before this one. */
        int placeOf(int coin) {
            int place = 0;
            for (int other = 0; other < coins && other < coin; other++) {
                place += 1 - asides[other];
            }
            return place;
        }

        /** Changes one value and returns the one before; an error, if it returns one, changes nothing. */
        int put(int kind, int index, int value) {
            int before = OUTSIDE;
            switch (kind) {
                case WEIGHT:
                    return exchange(weights, coins, index, value, 1, LAST_UNIT);
                case YEARS:
                    return exchange(years, coins, index, value, 0, LAST_YEAR);
                case ASIDE:
                    return exchange(asides, coins, index, value, 0, 1);
                case UNIT:
                    return exchange(units, mints, index, value, 1, LAST_UNIT);
                case RATE:
                    if (value >= 0 && value <= LAST_RATE) {
                        before = rate;
                        rate = value;
                    }
                    return before;
                case LAW:
                    if (value >= 0 && value <= LAST_LAW) {
                        before = law;
                        law = value;
                    }
                    return before;
                default:
                    return OUTSIDE;
            }
        }

        private static int exchange(int[] row, int size, int index, int value, int least, int most) {
            if (index < 0 || index >= size || index >= row.length) {
                return UNKNOWN;
            }
            if (value < least || value > most) {
                return OUTSIDE;
            }
            int before = row[index];
            row[index] = value;
            return before;
        }

        int greatestWear(int age) {
            if (law == 0) {
                return rate * age;
            }
            if (law == 2) {
                return rate * age * age / 4;
            }
            return age <= 4 ? rate * age : rate * 4 + rate * (age - 4) / 2;
        }

        int wearOf(int coin) {
            return hasCoin(coin) ? greatestWear(years[coin]) : 0;
        }

        /** NONE if the coin does not fit the unit; a coin that is not there fits none. */
        int lossOf(int coin, int unit) {
            return hasCoin(coin) ? Fit.loss(weights[coin], wearOf(coin), unit) : NONE;
        }

        int mintOf(int coin) {
            return hasCoin(coin) ? mintFor(weights[coin], wearOf(coin)) : NONE;
        }

        private int mintFor(int weight, int wear) {
            int best = NONE;
            int least = NONE;
            for (int mint = 0; mint < mints; mint++) {
                int loss = Fit.loss(weight, wear, units[mint]);
                if (loss != NONE && (least == NONE || loss < least)) {
                    least = loss;
                    best = mint;
                }
            }
            return best;
        }

        int mintsThatFit(int coin) {
            int found = 0;
            for (int mint = 0; mint < mints; mint++) {
                if (lossOf(coin, units[mint]) != NONE) {
                    found++;
                }
            }
            return found;
        }

        int setAside() {
            int set = 0;
            for (int coin = 0; coin < coins; coin++) {
                set |= asides[coin] << coin;
            }
            return set;
        }

        /** The coins that are not aside and are of this mint; with NONE, those that are false. */
        int setOfMint(int mint) {
            int set = 0;
            for (int coin = 0; coin < coins; coin++) {
                if (counts(coin) && mintOf(coin) == mint) {
                    set |= 1 << coin;
                }
            }
            return set;
        }

        int explainedBy(int unit) {
            int set = 0;
            for (int coin = 0; coin < coins; coin++) {
                if (counts(coin) && lossOf(coin, unit) != NONE) {
                    set |= 1 << coin;
                }
            }
            return set;
        }

        /** The sum of the losses by this unit of the coins of a set, all of which fit it. */
        int lossesOf(int set, int unit) {
            int sum = 0;
            for (int coin = 0; coin < coins; coin++) {
                if ((set >> coin & 1) == 1) {
                    sum += lossOf(coin, unit);
                }
            }
            return sum;
        }

        /** The unit of rank 0: from the greatest one down, as of equal ones the greatest is first. */
        int bestUnit() {
            int best = LAST_UNIT;
            int least = MISS * (MOST_COINS + 1);
            for (int unit = LAST_UNIT; unit >= 1; unit--) {
                int lack = lackOf(unit, least);
                if (lack < least) {
                    least = lack;
                    best = unit;
                }
            }
            return best;
        }

        /** The sum of the lacks by a unit; some sum not below the limit if it is not below it. */
        private int lackOf(int unit, int limit) {
            int lack = 0;
            for (int coin = 0; coin < coins && lack < limit; coin++) {
                if (counts(coin)) {
                    lack += Fit.lack(weights[coin], wearOf(coin), unit);
                }
            }
            return lack;
        }

        /** Whether the coin that is drawn by v is found to be of the mint that struck it. */
        boolean recognizes(int v) {
            int mint = mints < 1 ? NONE : v % mints;
            if (!hasMint(mint)) {
                return false;
            }
            int multiple = 1 + v / 4 % MOST_MULTIPLE;
            int wear = greatestWear(v / 64 % 10);
            int weight = multiple * units[mint] - v / 1024 % Math.max(1, wear + 1);
            return weight >= 1 && mintFor(weight, wear) == mint;
        }
    }

    /** The text of a hoard. */
    private static final class Text {
        private final int[] signs = new int[MOST_SIGNS];
        int length;

        int append(int sign) {
            if (length >= MOST_SIGNS) {
                return FULL;
            }
            signs[length] = sign;
            length++;
            return length;
        }

        /** Reads the text into a hoard; returns its fault, or NONE. With a fault the hoard is of no use. */
        int readInto(Hoard hoard) {
            if (signAt(0) != 'H') {
                return 0;
            }
            if (digitAt(1) < 0) {
                return 1;
            }
            if (digitAt(2) < 0 || digitAt(2) > LAST_LAW) {
                return 2;
            }
            hoard.start(digitAt(1), digitAt(2));
            for (int at = 3; at < length; at += signAt(at) == 'c' ? 5 : 4) {
                int fault = readPart(at, hoard);
                if (fault != NONE) {
                    return fault;
                }
            }
            return NONE;
        }

        private int readPart(int at, Hoard hoard) {
            if (signAt(at) == 'c' && hoard.coins < MOST_COINS) {
                int fault = numberFault(at + 1);
                if (fault != NONE) {
                    return fault;
                }
                if (digitAt(at + 4) < 0) {
                    return at + 4;
                }
                hoard.addCoin(numberAt(at + 1), digitAt(at + 4));
                return NONE;
            }
            if (signAt(at) == 'm' && hoard.mints < MOST_MINTS) {
                int fault = numberFault(at + 1);
                if (fault == NONE) {
                    hoard.addMint(numberAt(at + 1));
                }
                return fault;
            }
            return at;
        }

        private int numberFault(int at) {
            for (int k = 0; k < 3; k++) {
                if (digitAt(at + k) < 0) {
                    return at + k;
                }
            }
            return numberAt(at) == 0 ? at + 2 : NONE;
        }

        private int numberAt(int at) {
            return digitAt(at) * 100 + digitAt(at + 1) * 10 + digitAt(at + 2);
        }

        /** Negative if there is no digit. */
        private int digitAt(int at) {
            int sign = signAt(at);
            return sign >= '0' && sign <= '9' ? sign - '0' : -1;
        }

        /** Behind the end stands a sign that is allowed nowhere: so a text that ends too early has its fault there. */
        private int signAt(int at) {
            return at >= 0 && at < length ? signs[at] : -1;
        }
    }

    /** The last acts, in a ring, each with the value that it replaced. */
    private static final class Acts {
        private final int[] kinds = new int[MOST_UNDONE];
        private final int[] indexes = new int[MOST_UNDONE];
        private final int[] befores = new int[MOST_UNDONE];
        private int next;
        int size;

        void add(int kind, int index, int before) {
            kinds[next] = kind;
            indexes[next] = index;
            befores[next] = before;
            next = (next + 1) % MOST_UNDONE;
            size = Math.min(size + 1, MOST_UNDONE);
        }

        void takeBack(Hoard hoard) {
            if (size > 0) {
                size--;
                next = (next + MOST_UNDONE - 1) % MOST_UNDONE;
                hoard.put(kinds[next], indexes[next], befores[next]);
            }
        }

        void forget() {
            size = 0;
        }
    }

    /** The steps of judge(), done on a hoard that may be spoiled. */
    private static final class Steps {
        static boolean holds(Hoard hoard, int step) {
            int two = step / 1000 % 100;
            int three = step % 1000;
            boolean roundThree = three % 100 == 0;
            switch (step / 100000) {
                case 1:
                    return hoard.put(WEIGHT, two, three) >= 0;
                case 2:
                    return roundThree && hoard.put(YEARS, two, three / 100) >= 0;
                case 3:
                    return three == 0 && turns(hoard, two);
                case 4:
                    return two % 10 == 0 && hoard.put(UNIT, two / 10, three) >= 0;
                case 5:
                    return roundThree && isOf(hoard, two, three / 100);
                case 6:
                    return two == 0 && hoard.bestUnit() == three;
                case 7:
                    return three == 0 && hoard.put(LAW, 0, two) >= 0;
                default:
                    return false;
            }
        }

        private static boolean turns(Hoard hoard, int coin) {
            return hoard.hasCoin(coin) && hoard.put(ASIDE, coin, 1 - hoard.asides[coin]) >= 0;
        }

        private static boolean isOf(Hoard hoard, int coin, int mint) {
            return hoard.hasCoin(coin) && hoard.mintOf(coin) == (mint == 9 ? NONE : mint);
        }
    }

    /**
     * The lacks of all coins by all units. A coin's column is worked out again only if the coin is
     * not as it was when it was looked at last: questions are often asked without a change between.
     */
    private static final class Survey {
        /** The weights looked at last, 0 for a coin that is aside or not there, and the wears. */
        private final int[] weights = new int[MOST_COINS];
        private final int[] wears = new int[MOST_COINS];
        private final int[] lacks = new int[(LAST_UNIT + 1) * MOST_COINS];
        private final int[] sums = new int[LAST_UNIT + 1];
        /** The sums with their units, the best first. */
        private final int[] order = new int[LAST_UNIT];
        /** Goes up whenever a column changes, so that what is made from columns can tell its age. */
        int version = 1;
        private int sortedVersion;
        private int pairVersion;
        int lower;
        int upper;
        int pairLack;

        void look(Hoard hoard) {
            for (int coin = 0; coin < MOST_COINS; coin++) {
                int weight = hoard.counts(coin) ? hoard.weights[coin] : 0;
                int wear = hoard.counts(coin) ? hoard.wearOf(coin) : 0;
                if (weight != weights[coin] || wear != wears[coin]) {
                    fillColumn(coin, weight, wear);
                    version++;
                }
            }
        }

        private void fillColumn(int coin, int weight, int wear) {
            weights[coin] = weight;
            wears[coin] = wear;
            for (int unit = 1; unit <= LAST_UNIT; unit++) {
                int at = unit * MOST_COINS + coin;
                int lack = weight == 0 ? 0 : Fit.lack(weight, wear, unit);
                sums[unit] += lack - lacks[at];
                lacks[at] = lack;
            }
        }

        int rankOf(int unit) {
            int rank = 0;
            int own = keyOf(unit);
            for (int other = 1; other <= LAST_UNIT; other++) {
                if (keyOf(other) < own) {
                    rank++;
                }
            }
            return rank;
        }

        /** Ranks as one number: the smaller sum first, of equal ones the greater unit. */
        private int keyOf(int unit) {
            return Fit.isUnit(unit) ? sums[unit] * (LAST_UNIT + 1) + LAST_UNIT - unit : 0;
        }

        int unitOfRank(int rank) {
            if (rank < 0 || rank >= LAST_UNIT) {
                return UNKNOWN;
            }
            if (sortedVersion != version) {
                sort();
                sortedVersion = version;
            }
            return LAST_UNIT - order[rank] % (LAST_UNIT + 1);
        }

        /** By insertion over shrinking gaps: short, without another row, and quick enough for 999. */
        private void sort() {
            for (int rank = 0; rank < LAST_UNIT; rank++) {
                order[rank] = keyOf(rank + 1);
            }
            for (int gap = 364; gap >= 1; gap /= 3) {
                for (int from = gap; from < LAST_UNIT; from++) {
                    int key = order[from];
                    int to = from;
                    for (; to >= gap && order[to - gap] > key; to -= gap) {
                        order[to] = order[to - gap];
                    }
                    order[to] = key;
                }
            }
        }

        /**
         * Goes through the pairs in the order in which equal ones are preferred, so that only a better
         * one replaces the one found. It begins with what the best single unit reaches, and passes
         * over pairs that cannot be better even if no coin fits both units.
         */
        void findPair() {
            if (pairVersion == version) {
                return;
            }
            pairVersion = version;
            int best = bestUnit();
            int misses = countedColumns() * MISS;
            pairLack = leastWith(best) + 1;
            for (int u = 1; u < LAST_UNIT && pairLack > 0; u++) {
                if (sums[u] + sums[best] - misses < pairLack) {
                    findUpper(u, misses);
                }
            }
        }

        private void findUpper(int u, int misses) {
            int width = width();
            for (int v = u + 1; v <= LAST_UNIT && pairLack > 0; v++) {
                if (sums[u] + sums[v] - misses < pairLack) {
                    int lack = jointLack(u, v, width, pairLack);
                    if (lack < pairLack) {
                        pairLack = lack;
                        lower = u;
                        upper = v;
                    }
                }
            }
        }

        private int bestUnit() {
            int best = 1;
            for (int unit = 2; unit <= LAST_UNIT; unit++) {
                if (sums[unit] < sums[best]) {
                    best = unit;
                }
            }
            return best;
        }

        private int leastWith(int unit) {
            int least = MISS * (MOST_COINS + 1);
            int width = width();
            for (int other = 1; other <= LAST_UNIT; other++) {
                if (other != unit) {
                    least = Math.min(least, jointLack(unit, other, width, least));
                }
            }
            return least;
        }

        /** The lack of a pair; some number not below the limit if it is not below it. */
        private int jointLack(int u, int v, int width, int limit) {
            int atU = u * MOST_COINS;
            int atV = v * MOST_COINS;
            int lack = 0;
            for (int coin = 0; coin < width && lack < limit; coin++) {
                int byU = lacks[atU + coin];
                int byV = lacks[atV + coin];
                lack += byU < byV ? byU : byV;
            }
            return lack;
        }

        private int countedColumns() {
            int columns = 0;
            for (int coin = 0; coin < MOST_COINS; coin++) {
                if (weights[coin] > 0) {
                    columns++;
                }
            }
            return columns;
        }

        /** How many columns there are up to the last one that is in use. */
        private int width() {
            int width = 0;
            for (int coin = 0; coin < MOST_COINS; coin++) {
                if (weights[coin] > 0) {
                    width = coin + 1;
                }
            }
            return width;
        }

        /** The coins that a unit explains, bit k for the k-th of those that are not aside. */
        int placesBy(int unit) {
            if (!Fit.isUnit(unit)) {
                return 0;
            }
            int set = 0;
            int place = 0;
            for (int coin = 0; coin < MOST_COINS; coin++) {
                if (weights[coin] > 0) {
                    if (lacks[unit * MOST_COINS + coin] < MISS) {
                        set |= 1 << place;
                    }
                    place++;
                }
            }
            return set;
        }
    }

    /** All sets of the coins that are not aside, if these are few, with the values of the sets. */
    private static final class Crowd {
        private final int[] values = new int[CROWD_SETS];
        private int version;
        private int size;

        void gather(Survey survey, int coins) {
            if (version == survey.version || coins > CROWD_COINS) {
                return;
            }
            version = survey.version;
            size = coins;
            for (int set = 0; set < CROWD_SETS; set++) {
                values[set] = 0;
            }
            for (int unit = 1; unit <= LAST_UNIT; unit++) {
                values[survey.placesBy(unit) % CROWD_SETS] = 1;
            }
            markSubsets();
            fillValues();
        }

        /** A unit that explains a set explains its parts. */
        private void markSubsets() {
            for (int set = (1 << size) - 1; set >= 0; set--) {
                for (int place = 0; place < size; place++) {
                    if (values[set | 1 << place] == 1) {
                        values[set] = 1;
                    }
                }
            }
        }

        /** From the small sets up; a marked set is explained whole, another one without some coin. */
        private void fillValues() {
            for (int set = 0; set < 1 << size; set++) {
                int value = values[set] == 1 ? Integer.bitCount(set) : 0;
                for (int place = 0; place < size; place++) {
                    if ((set >> place & 1) == 1) {
                        value = Math.max(value, values[set ^ 1 << place]);
                    }
                }
                values[set] = value;
            }
        }

        int shareOf(int place, boolean upper) {
            if (place < 0 || place >= size) {
                return STATE;
            }
            int sum = 0;
            for (int set = 0; set < 1 << size; set++) {
                if ((set >> place & 1) == 0) {
                    int gain = values[set | 1 << place] - values[set];
                    int before = Integer.bitCount(set);
                    sum += gain * factorial(before) * factorial(size - 1 - before);
                }
            }
            return partOfFraction(sum, factorial(size), upper);
        }

        private static int factorial(int n) {
            return n >= 0 && n < FACTORIALS.length ? FACTORIALS[n] : 0;
        }

        int chanceOfUnit(int tenths, boolean upper) {
            int sum = 0;
            for (int left = 0; left < 1 << size; left++) {
                int kept = Integer.bitCount(left);
                if (values[left] == kept) {
                    sum += power(tenths, size - kept) * power(10 - tenths, kept);
                }
            }
            return partOfFraction(sum, power(10, size), upper);
        }

        private static int power(int base, int exponent) {
            int power = 1;
            for (int k = 0; k < exponent; k++) {
                power *= base;
            }
            return power;
        }

        /** The numerator or the denominator in lowest terms. */
        private static int partOfFraction(int over, int under, boolean upper) {
            int divisor = under;
            int rest = over;
            // Euclid's steps on ints are fewer than 64.
            for (int step = 0; step < 64 && rest != 0; step++) {
                int next = divisor % rest;
                divisor = rest;
                rest = next;
            }
            if (divisor == 0) {
                return 0;
            }
            return upper ? over / divisor : under / divisor;
        }
    }

    /** What was observed of an unknown unit. */
    private static final class Sightings {
        private final int[] coins = new int[MOST_SEEN];
        private final boolean[] fitting = new boolean[MOST_SEEN];
        int size;

        int add(int coin, int was) {
            if (size >= MOST_SEEN) {
                return FULL;
            }
            coins[size] = coin;
            fitting[size] = was == 1;
            size++;
            return size;
        }

        boolean agreeWith(Hoard hoard, int unit) {
            for (int k = 0; k < size; k++) {
                if ((hoard.lossOf(coins[k], unit) != NONE) != fitting[k]) {
                    return false;
                }
            }
            return true;
        }
    }
}
