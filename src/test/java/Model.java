import java.math.BigInteger;
import java.util.ArrayDeque;
import java.util.ArrayList;
import java.util.Arrays;
import java.util.Comparator;
import java.util.Deque;
import java.util.List;

/**
 * The document once more, in the plainest way and with nothing kept from one question to the next:
 * what the class answers is compared with this. It shares no code and no method of reckoning with it.
 */
final class Model {
    private static final int UNKNOWN = -1, OUTSIDE = -2, STATE = -3, FULL = -4, NONE = -9;

    /** Everything that acts change. */
    private static final class World {
        final List<int[]> coins = new ArrayList<>(); // weight, years, aside
        final List<Integer> mints = new ArrayList<>();
        int rate = 1;
        int law = 0;

        World copy() {
            World other = new World();
            for (int[] coin : coins) {
                other.coins.add(coin.clone());
            }
            other.mints.addAll(mints);
            other.rate = rate;
            other.law = law;
            return other;
        }

        int wear(int years) {
            switch (law) {
                case 0:
                    return rate * years;
                case 1:
                    return years <= 4 ? rate * years : rate * 4 + (rate * (years - 4)) / 2;
                default:
                    return (rate * years * years) / 4;
            }
        }

        /** The multiple, or 0. */
        int multiple(int weight, int years, int unit) {
            for (int n = 1; n <= 12; n++) {
                if (n * unit >= weight && n * unit <= weight + wear(years)) {
                    return n;
                }
            }
            return 0;
        }

        boolean fits(int c, int unit) {
            return multiple(coins.get(c)[0], coins.get(c)[1], unit) > 0;
        }

        int loss(int c, int unit) {
            int[] coin = coins.get(c);
            return multiple(coin[0], coin[1], unit) * unit - coin[0];
        }

        int reason(int c, int unit) {
            int[] coin = coins.get(c);
            if (fits(c, unit)) {
                return 0;
            }
            if (12 * unit < coin[0]) {
                return 1;
            }
            return unit > coin[0] + wear(coin[1]) ? 2 : 3;
        }

        int excess(int c, int unit) {
            int[] coin = coins.get(c);
            switch (reason(c, unit)) {
                case 0:
                    return 0;
                case 1:
                    return coin[0] - 12 * unit;
                default:
                    int n = 1;
                    while (n * unit < coin[0]) {
                        n++;
                    }
                    return n * unit - coin[0] - wear(coin[1]);
            }
        }

        int mintOf(int weight, int years) {
            int best = NONE;
            int least = Integer.MAX_VALUE;
            for (int m = 0; m < mints.size(); m++) {
                int n = multiple(weight, years, mints.get(m));
                if (n > 0 && n * mints.get(m) - weight < least) {
                    least = n * mints.get(m) - weight;
                    best = m;
                }
            }
            return best;
        }

        int mintOf(int c) {
            return mintOf(coins.get(c)[0], coins.get(c)[1]);
        }

        boolean counted(int c) {
            return coins.get(c)[2] == 0;
        }

        List<Integer> countedCoins() {
            List<Integer> list = new ArrayList<>();
            for (int c = 0; c < coins.size(); c++) {
                if (counted(c)) {
                    list.add(c);
                }
            }
            return list;
        }

        List<Integer> explained(int unit) {
            List<Integer> list = countedCoins();
            list.removeIf(c -> !fits(c, unit));
            return list;
        }

        int losses(int unit) {
            return explained(unit).stream().mapToInt(c -> loss(c, unit)).sum();
        }

        List<Integer> ranking() {
            int[] number = new int[1000];
            int[] losses = new int[1000];
            List<Integer> units = new ArrayList<>();
            for (int u = 1; u <= 999; u++) {
                number[u] = explained(u).size();
                losses[u] = losses(u);
                units.add(u);
            }
            units.sort(Comparator.<Integer>comparingInt(u -> -number[u]).thenComparingInt(u -> losses[u])
                .thenComparingInt(u -> -u));
            return units;
        }

        /** u, v, the set, the losses. */
        int[] pair() {
            int[][] loss = new int[1000][];
            List<Integer> counted = countedCoins();
            for (int u = 1; u <= 999; u++) {
                loss[u] = new int[counted.size()];
                for (int k = 0; k < counted.size(); k++) {
                    loss[u][k] = fits(counted.get(k), u) ? loss(counted.get(k), u) : 100000;
                }
            }
            int bestNumber = -1;
            int bestLosses = 0;
            int[] best = null;
            for (int u = 1; u <= 999; u++) {
                for (int v = u + 1; v <= 999; v++) {
                    int number = 0;
                    int losses = 0;
                    for (int k = 0; k < counted.size(); k++) {
                        int least = Math.min(loss[u][k], loss[v][k]);
                        if (least < 100000) {
                            number++;
                            losses += least;
                        }
                    }
                    if (number > bestNumber || number == bestNumber && losses < bestLosses) {
                        bestNumber = number;
                        bestLosses = losses;
                        best = new int[] {u, v, 0, losses};
                    }
                }
            }
            best[2] = set(explained(best[0])) | set(explained(best[1]));
            return best;
        }
    }

    private StringBuilder text = new StringBuilder();
    private World world = new World();
    private final Deque<World> past = new ArrayDeque<>();
    private final World[] slots = new World[2];
    private final List<int[]> seen = new ArrayList<>();
    private long seed = 0;

    private static int set(List<Integer> coins) {
        int set = 0;
        for (int c : coins) {
            set += 1 << c;
        }
        return set;
    }

    private boolean noCoin(int coin) {
        return coin < 0 || coin >= world.coins.size();
    }

    private boolean noMint(int mint) {
        return mint < 0 || mint >= world.mints.size();
    }

    int write(int letter) {
        if (letter < 0 || letter > 255) {
            return OUTSIDE;
        }
        if (text.length() == 130) {
            return FULL;
        }
        text.append((char) letter);
        return text.length();
    }

    int wipe() {
        int length = text.length();
        text = new StringBuilder();
        return length;
    }

    /** A text may begin like this: what may follow is told by a pattern for every length of it. */
    private static boolean canBegin(String s) {
        String part = "(c(?!000)[0-9]{3}[0-9]|m(?!000)[0-9]{3})*";
        String end = "(c([0-9]{0,2}|(?!000)[0-9]{3})|m[0-9]{0,2})?";
        if (!(s.matches("H?") || s.matches("H[0-9]") || s.matches("H[0-9][0-2]" + part + end))) {
            return false;
        }
        long coins = s.chars().filter(c -> c == 'c').count();
        long mints = s.chars().filter(c -> c == 'm').count();
        return coins <= 12 && mints <= 3;
    }

    int fault() {
        String s = text.toString();
        for (int k = 0; k < s.length(); k++) {
            if (!canBegin(s.substring(0, k + 1))) {
                return k;
            }
        }
        boolean whole = s.matches("H[0-9][0-2](c[0-9]{4}|m[0-9]{3})*");
        return whole ? NONE : s.length();
    }

    int hoard() {
        if (fault() != NONE) {
            return STATE;
        }
        World next = new World();
        String s = text.toString();
        next.rate = s.charAt(1) - '0';
        next.law = s.charAt(2) - '0';
        for (String part : s.substring(3).split("(?=[cm])")) {
            if (part.startsWith("c")) {
                next.coins.add(new int[] {Integer.parseInt(part.substring(1, 4)), part.charAt(4) - '0', 0});
            } else if (part.startsWith("m")) {
                next.mints.add(Integer.parseInt(part.substring(1)));
            }
        }
        world = next;
        past.clear();
        Arrays.fill(slots, null);
        return world.coins.size();
    }

    int coin(int coin, int what) {
        if (noCoin(coin)) {
            return UNKNOWN;
        }
        if (what < 0 || what > 5) {
            return OUTSIDE;
        }
        int[] it = world.coins.get(coin);
        int fitting = 0;
        for (int unit : world.mints) {
            fitting += world.fits(coin, unit) ? 1 : 0;
        }
        return new int[] {it[0], it[1], world.wear(it[1]), it[2], world.mintOf(coin), fitting}[what];
    }

    int mint(int mint, int what) {
        if (noMint(mint)) {
            return UNKNOWN;
        }
        if (what < 0 || what > 3) {
            return OUTSIDE;
        }
        int unit = world.mints.get(mint);
        List<Integer> own = world.countedCoins();
        own.removeIf(c -> world.mintOf(c) != mint);
        int losses = own.stream().mapToInt(c -> world.loss(c, unit)).sum();
        return new int[] {unit, set(own), own.size(), losses}[what];
    }

    private void act() {
        past.addLast(world.copy());
        if (past.size() > 14) {
            past.removeFirst();
        }
    }

    int clean(int coin, int weight) {
        return change(coin, 0, weight, 1, 999);
    }

    int date(int coin, int years) {
        return change(coin, 1, years, 0, 9);
    }

    private int change(int coin, int field, int value, int least, int most) {
        if (noCoin(coin)) {
            return UNKNOWN;
        }
        if (value < least || value > most) {
            return OUTSIDE;
        }
        act();
        int before = world.coins.get(coin)[field];
        world.coins.get(coin)[field] = value;
        return before;
    }

    int aside(int coin) {
        if (noCoin(coin)) {
            return UNKNOWN;
        }
        act();
        world.coins.get(coin)[2] ^= 1;
        return world.coins.get(coin)[2];
    }

    int strike(int mint, int unit) {
        if (noMint(mint)) {
            return UNKNOWN;
        }
        if (unit < 1 || unit > 999) {
            return OUTSIDE;
        }
        act();
        return world.mints.set(mint, unit);
    }

    int setRate(int v) {
        if (v < 0 || v > 9) {
            return OUTSIDE;
        }
        act();
        int before = world.rate;
        world.rate = v;
        return before;
    }

    int setLaw(int v) {
        if (v < 0 || v > 2) {
            return OUTSIDE;
        }
        act();
        int before = world.law;
        world.law = v;
        return before;
    }

    int undo() {
        if (past.isEmpty()) {
            return STATE;
        }
        world = past.removeLast();
        return past.size();
    }

    int fits(int coin, int unit, int what) {
        if (noCoin(coin)) {
            return UNKNOWN;
        }
        if (unit < 1 || unit > 999 || what < 0 || what > 3) {
            return OUTSIDE;
        }
        int[] it = world.coins.get(coin);
        boolean fits = world.fits(coin, unit);
        return new int[] {fits ? world.multiple(it[0], it[1], unit) : NONE, fits ? world.loss(coin, unit) : NONE,
            world.reason(coin, unit), world.excess(coin, unit)}[what];
    }

    int chain(int coin, int k) {
        if (noCoin(coin)) {
            return UNKNOWN;
        }
        if (k < 0) {
            return OUTSIDE;
        }
        if (world.mintOf(coin) != NONE || k >= world.mints.size()) {
            return NONE;
        }
        return world.reason(coin, world.mints.get(world.mints.size() - 1 - k));
    }

    int unit(int unit, int what) {
        if (unit < 1 || unit > 999 || what < 0 || what > 3) {
            return OUTSIDE;
        }
        switch (what) {
            case 0:
                return world.explained(unit).size();
            case 1:
                return set(world.explained(unit));
            case 2:
                return world.losses(unit);
            default:
                return world.ranking().indexOf(unit);
        }
    }

    int ranked(int rank) {
        return rank < 0 || rank > 998 ? UNKNOWN : world.ranking().get(rank);
    }

    int pair(int what) {
        return what < 0 || what > 3 ? OUTSIDE : world.pair()[what];
    }

    int judge(int n, long row) {
        if (n < 1 || n > 3 || row < 0) {
            return OUTSIDE;
        }
        String digits = Long.toString(row);
        if (digits.length() > 6 * n) {
            return OUTSIDE;
        }
        digits = "0".repeat(6 * n - digits.length()) + digits;
        World real = world;
        world = real.copy();
        int answer = NONE;
        for (int k = 0; k < n && answer == NONE; k++) {
            if (!step(digits.substring(6 * k, 6 * k + 6))) {
                answer = k;
            }
        }
        world = real;
        return answer;
    }

    private boolean step(String s) {
        int coin = Integer.parseInt(s.substring(1, 3));
        int last = Integer.parseInt(s.substring(3));
        int fourth = s.charAt(3) - '0';
        if (s.matches("1.....")) {
            if (noCoin(coin) || last == 0) {
                return false;
            }
            world.coins.get(coin)[0] = last;
            return true;
        }
        if (s.matches("2...00")) {
            if (noCoin(coin)) {
                return false;
            }
            world.coins.get(coin)[1] = fourth;
            return true;
        }
        if (s.matches("3..000")) {
            if (noCoin(coin)) {
                return false;
            }
            world.coins.get(coin)[2] ^= 1;
            return true;
        }
        if (s.matches("4.0...")) {
            int mint = s.charAt(1) - '0';
            if (noMint(mint) || last == 0) {
                return false;
            }
            world.mints.set(mint, last);
            return true;
        }
        if (s.matches("5...00")) {
            if (noCoin(coin) || fourth != 9 && noMint(fourth)) {
                return false;
            }
            return world.mintOf(coin) == (fourth == 9 ? NONE : fourth);
        }
        if (s.matches("600...")) {
            return world.ranking().get(0) == last;
        }
        if (s.matches("70[0-2]000")) {
            world.law = s.charAt(2) - '0';
            return true;
        }
        return false;
    }

    int see(int coin, int was) {
        if (noCoin(coin)) {
            return UNKNOWN;
        }
        if (was != 0 && was != 1) {
            return OUTSIDE;
        }
        if (seen.size() == 6) {
            return FULL;
        }
        seen.add(new int[] {coin, was});
        return seen.size();
    }

    int unsee() {
        int before = seen.size();
        seen.clear();
        return before;
    }

    int which(int what) {
        if (what < 0 || what > 2) {
            return OUTSIDE;
        }
        List<Integer> units = new ArrayList<>();
        for (int u = 1; u <= 999; u++) {
            boolean all = true;
            for (int[] one : seen) {
                boolean fits = !noCoin(one[0]) && world.fits(one[0], u);
                all &= fits == (one[1] == 1);
            }
            if (all) {
                units.add(u);
            }
        }
        if (what == 0) {
            return units.size();
        }
        if (units.isEmpty()) {
            return NONE;
        }
        return what == 1 ? units.get(0) : units.get(units.size() - 1);
    }

    private int[] setsOfUnits() {
        int[] sets = new int[1000];
        for (int u = 1; u <= 999; u++) {
            sets[u] = set(world.explained(u));
        }
        return Arrays.stream(sets).distinct().toArray();
    }

    private static int value(int[] sets, int coins) {
        int value = 0;
        for (int set : sets) {
            value = Math.max(value, Integer.bitCount(set & coins));
        }
        return value;
    }

    private static int part(BigInteger over, BigInteger under, boolean upper) {
        BigInteger divisor = over.gcd(under);
        return (upper ? over : under).divide(divisor).intValueExact();
    }

    int share(int coin, boolean upper) {
        if (noCoin(coin)) {
            return UNKNOWN;
        }
        if (!world.counted(coin) || world.countedCoins().size() > 8) {
            return STATE;
        }
        List<Integer> others = world.countedCoins();
        others.remove(Integer.valueOf(coin));
        long[] sumAndOrders = new long[2];
        arrive(others, 0, coin, setsOfUnits(), sumAndOrders);
        return part(BigInteger.valueOf(sumAndOrders[0]), BigInteger.valueOf(sumAndOrders[1]), upper);
    }

    /** Chooses who is there before the coin; as many orders as the factorials tell have just these before it. */
    private void arrive(List<Integer> others, int before, int coin, int[] sets, long[] sumAndOrders) {
        if (others.isEmpty()) {
            int all = world.countedCoins().size();
            int early = Integer.bitCount(before);
            long orders = 1;
            for (int k = 2; k <= early; k++) {
                orders *= k;
            }
            for (int k = 2; k <= all - 1 - early; k++) {
                orders *= k;
            }
            sumAndOrders[0] += orders * (value(sets, before | 1 << coin) - value(sets, before));
            sumAndOrders[1] += orders;
            return;
        }
        List<Integer> rest = others.subList(1, others.size());
        arrive(rest, before, coin, sets, sumAndOrders);
        arrive(rest, before | 1 << others.get(0), coin, sets, sumAndOrders);
    }

    int lost(int x, boolean upper) {
        if (x < 0 || x > 10) {
            return OUTSIDE;
        }
        List<Integer> counted = world.countedCoins();
        if (counted.size() > 8) {
            return STATE;
        }
        int[] sets = setsOfUnits();
        long sum = 0;
        for (int which = 0; which < 1 << counted.size(); which++) {
            int left = 0;
            long weight = 1;
            for (int k = 0; k < counted.size(); k++) {
                boolean stays = (which >> k & 1) == 1;
                weight *= stays ? 10 - x : x;
                left |= stays ? 1 << counted.get(k) : 0;
            }
            sum += value(sets, left) == Integer.bitCount(left) ? weight : 0;
        }
        return part(BigInteger.valueOf(sum), BigInteger.TEN.pow(counted.size()), upper);
    }

    long seed(long v) {
        long before = seed;
        seed = v;
        return before;
    }

    int drawn(int m) {
        if (m < 1 || m > 20) {
            return OUTSIDE;
        }
        int found = 0;
        for (int k = 0; k < m; k++) {
            seed = seed * 6364136223846793005L + 1442695040888963407L;
            int v = (int) (seed >>> 33);
            if (!world.mints.isEmpty()) {
                int mint = v % world.mints.size();
                int n = 1 + v / 4 % 12;
                int years = v / 64 % 10;
                int weight = n * world.mints.get(mint) - v / 1024 % (world.wear(years) + 1);
                found += weight >= 1 && world.mintOf(weight, years) == mint ? 1 : 0;
            }
        }
        return found;
    }

    int keep(int slot) {
        if (slot != 0 && slot != 1) {
            return UNKNOWN;
        }
        slots[slot] = world.copy();
        return world.coins.size();
    }

    int again(int slot) {
        if (slot != 0 && slot != 1) {
            return UNKNOWN;
        }
        if (slots[slot] == null) {
            return STATE;
        }
        world = slots[slot].copy();
        past.clear();
        return world.coins.size();
    }

    int count(int what) {
        if (what < 0 || what > 8) {
            return OUTSIDE;
        }
        List<Integer> asides = new ArrayList<>();
        List<Integer> falses = world.countedCoins();
        falses.removeIf(c -> world.mintOf(c) != NONE);
        for (int c = 0; c < world.coins.size(); c++) {
            if (!world.counted(c)) {
                asides.add(c);
            }
        }
        return new int[] {text.length(), world.coins.size(), world.mints.size(), world.rate, world.law,
            set(asides), set(falses), past.size(), seen.size()}[what];
    }
}
