import java.math.BigInteger;

/** The edges of "Fractions" and of the promises 21 to 27 and 30, sentence by sentence. */
public final class ChanceEdgesTest {
    private static final int UNKNOWN = Edges.UNKNOWN, OUTSIDE = Edges.OUTSIDE, STATE = Edges.STATE;
    private static final int FULL = Edges.FULL, NONE = Edges.NONE, MIN = Edges.MIN, MAX = Edges.MAX;
    private static Edges edges;

    public static void main(String[] args) {
        edges = new Edges("ChanceEdgesTest", args);
        sixObservations();
        see();
        unsee();
        unitsOfObservations();
        coinsAsTheyAreNow();
        goneCoins();
        which();
        shares();
        shareErrors();
        losses();
        lostErrors();
        lowestTerms();
        seed();
        seedWrapsAround();
        drawnCoins();
        drawnAtTheEdges();
        drawnFromNegativeSeeds();
        drawnByMints();
        drawnErrors();
        count();
        noneIsNoError();
        edges.end();
    }

    // ---- seen

    private static void sixObservations() {
        edges.sentence("There are at most 6 observations.");
        CommonUnits x = Check.of("H00c0120c0180");
        for (int k = 1; k <= 6; k++) {
            edges.due("see", x.see(0, 1), k);
            edges.due("observations", x.count(8), k);
        }
        edges.due("a seventh one", x.see(0, 1), FULL);
        edges.due("observations", x.count(8), 6);
        edges.due("unsee()", x.unsee(), 6);
        edges.due("see() after it", x.see(0, 1), 1);
        // Each of the six counts, the last one too.
        for (int odd = 0; odd < 6; odd++) {
            CommonUnits y = Check.of("H00c0120c0180");
            for (int k = 0; k < 6; k++) {
                y.see(k == odd ? 1 : 0, 1);
            }
            edges.all("observation " + odd + " is the other one", Edges.whichAll(y), 3, 2, 6);
        }
    }

    private static void see() {
        edges.sentence("Returns the number of observations; UNKNOWN if there is no such coin; OUTSIDE if was is not 0"
            + " or 1; FULL if there are 6 observations.");
        for (int was : new int[] {-1, 2, MIN, MAX}) {
            edges.refused(Edges::rich, "see(2, " + was + ")", x -> x.see(2, was), OUTSIDE);
            edges.refused(Edges::rich, "see(3, " + was + ")", x -> x.see(3, was), UNKNOWN);
            edges.refused(Edges::rich, "see(-1, " + was + ")", x -> x.see(-1, was), UNKNOWN);
            edges.refused(Edges::sixSeen, "see(2, " + was + ") when full", x -> x.see(2, was), OUTSIDE);
            edges.refused(Edges::sixSeen, "see(3, " + was + ") when full", x -> x.see(3, was), UNKNOWN);
        }
        for (int was = 0; was <= 1; was++) {
            int asked = was;
            edges.refused(Edges::sixSeen, "see(0, " + was + ") when full", x -> x.see(0, asked), FULL);
            edges.refused(Edges::sixSeen, "see(3, " + was + ") when full", x -> x.see(3, asked), UNKNOWN);
            edges.refused(Edges::rich, "see(3, " + was + ")", x -> x.see(3, asked), UNKNOWN);
            edges.refused(CommonUnits::new, "see(0, " + was + ")", x -> x.see(0, asked), UNKNOWN);
            edges.due("see(2, " + was + ")", Edges.rich().see(2, was), 3);
        }
    }

    private static void unsee() {
        edges.sentence("Removes all observations. Returns how many there were.");
        edges.due("unsee() of none", new CommonUnits().unsee(), 0);
        CommonUnits x = Edges.sixSeen();
        edges.due("unsee() of six", x.unsee(), 6);
        edges.due("observations", x.count(8), 0);
        edges.all("which", Edges.whichAll(x), 999, 1, 999);
        edges.due("unsee() again", x.unsee(), 0);
        x.see(0, 1);
        x.see(1, 0);
        edges.holds("nothing else is different", Probe.of(x).equals(Probe.of(Edges.rich())));
    }

    private static void unitsOfObservations() {
        edges.sentence("Finds the units from 1 to 999 for which all observations are true");
        CommonUnits x = Check.of("H00c0010c9990c3330");
        edges.all("no observations", Edges.whichAll(x), 999, 1, 999);
        x.see(0, 1);
        edges.all("the smallest unit alone", Edges.whichAll(x), 1, 1, 1);
        x.unsee();
        x.see(0, 0);
        edges.all("all but the smallest unit", Edges.whichAll(x), 998, 2, 999);
        x.see(1, 1);
        edges.all("those of 999", Edges.whichAll(x), 3, 111, 999);
        x.see(2, 0);
        edges.all("the greatest unit alone", Edges.whichAll(x), 1, 999, 999);
        x.see(1, 0);
        edges.all("none", Edges.whichAll(x), 0, NONE, NONE);
        x.unsee();
        x.see(1, 0);
        edges.all("all but those of 999", Edges.whichAll(x), 996, 1, 998);
        x.see(1, 1);
        edges.all("a contradiction", Edges.whichAll(x), 0, NONE, NONE);
    }

    private static void coinsAsTheyAreNow() {
        edges.sentence("with the coins as they are now (also those that are aside)");
        CommonUnits x = Check.of("H10c0120c0180");
        x.see(0, 1);
        edges.all("12", Edges.whichAll(x), 6, 1, 12);
        x.aside(0);
        edges.all("12, aside", Edges.whichAll(x), 6, 1, 12);
        x.clean(0, 13);
        edges.all("13", Edges.whichAll(x), 1, 13, 13);
        x.date(0, 1);
        edges.all("13 or 14", Edges.whichAll(x), 4, 2, 14);
        x.setRate(0);
        edges.all("13 again", Edges.whichAll(x), 1, 13, 13);
        x.undo();
        x.setLaw(2);
        edges.all("13 again, one year by rule 2", Edges.whichAll(x), 1, 13, 13);
        x.undo();
        edges.all("undone", Edges.whichAll(x), 4, 2, 14);
    }

    private static void goneCoins() {
        edges.sentence("A coin that does not exist any more fits no unit.");
        CommonUnits x = Check.of("H00c0120c0180");
        x.see(1, 0);
        Check.type(x, "H00c0120");
        x.hoard();
        edges.all("it was seen not to fit", Edges.whichAll(x), 999, 1, 999);
        x.see(0, 1);
        edges.all("it was seen not to fit, another to fit", Edges.whichAll(x), 6, 1, 12);
        Check.type(x, "H00");
        x.hoard();
        edges.all("the other one is gone, too", Edges.whichAll(x), 0, NONE, NONE);
        Check.type(x, "H00c0240");
        x.hoard();
        edges.all("there is such a coin again", Edges.whichAll(x), 7, 2, 24);
        Check.type(x, "H00c0240c0120");
        x.hoard();
        edges.all("there are both again", Edges.whichAll(x), 2, 8, 24);
        edges.due("observations", x.count(8), 2);
    }

    private static void which() {
        edges.sentence("Returns that value; NONE if what is 1 or 2 and there is none; OUTSIDE if what is not 0 to 2.");
        for (int what : new int[] {-1, 3, MIN, MAX}) {
            edges.refused(Edges::rich, "which(" + what + ")", x -> x.which(what), OUTSIDE);
            edges.refused(CommonUnits::new, "which(" + what + ")", x -> x.which(what), OUTSIDE);
            edges.refused(Edges::sixSeen, "which(" + what + ") if there is none", x -> x.which(what), OUTSIDE);
        }
        int[] wants = {0, NONE, NONE};
        for (int what = 0; what <= 2; what++) {
            int asked = what;
            edges.asked(Edges::sixSeen, "which(" + what + ")", x -> x.which(asked), wants[what]);
        }
    }

    // ---- shares, chances

    private static void shares() {
        edges.sentence("The share is the mean value of the set of all coins that have arrived after this coin has"
            + " arrived, minus that before.");
        for (int number = 1; number <= 8; number++) {
            CommonUnits apart = Edges.primes(number);
            CommonUnits together = Check.of("H00" + "c0120".repeat(number));
            for (int coin = 0; coin < number; coin++) {
                edges.all("share of one of " + number + " that are apart", Edges.shareOf(apart, coin), 1, number);
                edges.all("share of one of " + number + " that go together", Edges.shareOf(together, coin), 1, 1);
            }
        }
        edges.sentence("(0 for the empty set)");
        edges.all("the only coin", Edges.shareOf(Check.of("H00c0120"), 0), 1, 1);
        CommonUnits left = Edges.primes(2);
        left.aside(0);
        edges.all("the only coin that is not aside", Edges.shareOf(left, 1), 1, 1);
        edges.sentence("The value of a set of coins is the number of coins that the unit of rank 0 explains if all"
            + " other coins are aside");
        CommonUnits x = Check.of("H00c0120c0240c0350");
        edges.all("one of two that go together", Edges.shareOf(x, 0), 5, 6);
        edges.all("the other one", Edges.shareOf(x, 1), 5, 6);
        edges.all("the odd one", Edges.shareOf(x, 2), 1, 3);
        CommonUnits y = Check.of("H00" + "c0120".repeat(7) + "c0350");
        edges.all("the odd one of eight", Edges.shareOf(y, 7), 1, 8);
        edges.all("one of the other seven", Edges.shareOf(y, 0), 55, 56);
        CommonUnits oddFirst = Check.of("H00c0350c0120c0240");
        edges.all("the odd one, which is the first", Edges.shareOf(oddFirst, 0), 1, 3);
        edges.all("one of the other two", Edges.shareOf(oddFirst, 1), 5, 6);
        // The lightest coin fits the smallest unit alone, and by this unit 7 and 11 go together.
        CommonUnits light = Check.of("H00c0010c0130c0170");
        for (int coin = 0; coin < 3; coin++) {
            edges.all("the lightest coin and two others", Edges.shareOf(light, coin), 1, 3);
        }
        CommonUnits small = Check.of("H00c0070c0110c0010");
        for (int coin = 0; coin < 3; coin++) {
            edges.all("coins that the unit 1 explains", Edges.shareOf(small, coin), 1, 1);
        }
        edges.sentence("suppose that the coins that are not aside arrive one by one");
        y.aside(0);
        edges.all("the odd one of seven", Edges.shareOf(y, 7), 1, 7);
        edges.all("one of the other six", Edges.shareOf(y, 1), 41, 42);
        y.aside(7);
        edges.all("one of six", Edges.shareOf(y, 1), 1, 1);
    }

    /** Twelve coins, of which the first are aside. */
    private static CommonUnits twelve(int aside) {
        CommonUnits x = Edges.primes(12);
        for (int coin = 0; coin < aside; coin++) {
            x.aside(coin);
        }
        return x;
    }

    private static void shareErrors() {
        edges.sentence("Returns that number; UNKNOWN if there is no such coin; STATE if the coin is aside or more than"
            + " 8 coins are not aside.");
        edges.all("eight of twelve are not aside", Edges.shareOf(twelve(4), 11), 1, 8);
        edges.all("eight of eight", Edges.shareOf(Edges.primes(8), 7), 1, 8);
        for (boolean upper : new boolean[] {true, false}) {
            edges.refused(() -> twelve(3), "share(11) of nine", x -> x.share(11, upper), STATE);
            edges.refused(() -> twelve(3), "share(0) of a coin aside, of nine", x -> x.share(0, upper), STATE);
            edges.refused(() -> twelve(3), "share(12)", x -> x.share(12, upper), UNKNOWN);
            edges.refused(() -> twelve(0), "share(0) of twelve", x -> x.share(0, upper), STATE);
            edges.refused(() -> twelve(4), "share(3) of a coin aside", x -> x.share(3, upper), STATE);
            edges.refused(Edges::nine, "share(8) of nine", x -> x.share(8, upper), STATE);
            edges.refused(Edges::nine, "share(10)", x -> x.share(10, upper), UNKNOWN);
            edges.refused(Edges::nine, "share(-1)", x -> x.share(-1, upper), UNKNOWN);
            edges.refused(Edges::rich, "share(2) of a coin aside", x -> x.share(2, upper), STATE);
            edges.refused(Edges::rich, "share(3)", x -> x.share(3, upper), UNKNOWN);
            edges.refused(CommonUnits::new, "share(0) without coins", x -> x.share(0, upper), UNKNOWN);
            edges.asked(Edges::rich, "share(0)", x -> x.share(0, upper), 1);
        }
    }

    private static void losses() {
        edges.sentence("Returns the probability that there is a unit which all coins that are left fit (also if none"
            + " are left), if each coin that is not aside is lost with the probability x / 10, independently.");
        edges.all("without coins, 0", Edges.lostOf(new CommonUnits(), 0), 1, 1);
        edges.all("without coins, 10", Edges.lostOf(new CommonUnits(), 10), 1, 1);
        // Apart: at most one may be left.
        CommonUnits eight = Edges.primes(8);
        edges.all("none is lost", Edges.lostOf(eight, 0), 0, 1);
        edges.all("1 of 10", Edges.lostOf(eight, 1), 73, 100000000);
        edges.all("5 of 10", Edges.lostOf(eight, 5), 9, 256);
        edges.all("9 of 10", Edges.lostOf(eight, 9), 81310473, 100000000);
        edges.all("all are lost", Edges.lostOf(eight, 10), 1, 1);
        CommonUnits one = Edges.primes(1);
        for (int tenths = 0; tenths <= 10; tenths++) {
            edges.all("one coin, " + tenths, Edges.lostOf(one, tenths), 1, 1);
        }
        CommonUnits together = Check.of("H00" + "c0120".repeat(8));
        for (int tenths = 0; tenths <= 10; tenths++) {
            edges.all("eight that go together, " + tenths, Edges.lostOf(together, tenths), 1, 1);
        }
        edges.all("coins that the unit 1 explains", Edges.lostOf(Check.of("H00c0070c0110c0010"), 3), 1, 1);
        edges.all("the lightest coin and two others", Edges.lostOf(Check.of("H00c0010c0130c0170"), 5), 1, 2);
        CommonUnits x = Edges.primes(3);
        edges.all("three", Edges.lostOf(x, 5), 1, 2);
        x.aside(1);
        edges.all("two that are not aside", Edges.lostOf(x, 5), 3, 4);
        x.aside(0);
        edges.all("one that is not aside", Edges.lostOf(x, 5), 1, 1);
        x.aside(2);
        edges.all("all aside", Edges.lostOf(x, 0), 1, 1);
    }

    private static void lostErrors() {
        edges.sentence("Returns that number; OUTSIDE if x is out of range; STATE if more than 8 coins are not aside.");
        edges.all("eight of twelve are not aside", Edges.lostOf(twelve(4), 5), 9, 256);
        for (boolean upper : new boolean[] {true, false}) {
            for (int tenths : new int[] {-1, 11, MIN, MAX}) {
                edges.refused(Edges::rich, "lost(" + tenths + ")", x -> x.lost(tenths, upper), OUTSIDE);
                edges.refused(Edges::nine, "lost(" + tenths + ") of nine", x -> x.lost(tenths, upper), OUTSIDE);
                edges.refused(CommonUnits::new, "lost(" + tenths + ") of none", x -> x.lost(tenths, upper), OUTSIDE);
            }
            for (int tenths : new int[] {0, 1, 9, 10}) {
                edges.refused(Edges::nine, "lost(" + tenths + ") of nine", x -> x.lost(tenths, upper), STATE);
                edges.refused(() -> twelve(3), "lost(" + tenths + ") of nine", x -> x.lost(tenths, upper), STATE);
                edges.refused(() -> twelve(0), "lost(" + tenths + ") of twelve", x -> x.lost(tenths, upper), STATE);
            }
            edges.asked(Edges::rich, "lost(10)", x -> x.lost(10, upper), 1);
        }
    }

    private static void lowestTerms() {
        edges.sentence("A fraction is given in lowest terms with a positive denominator (0 is 0/1)");
        CommonUnits two = Edges.primes(2);
        edges.all("0", Edges.lostOf(two, 0), 0, 1);
        int[][] wants = {{19, 100}, {9, 25}, {51, 100}, {16, 25}, {3, 4}, {21, 25}, {91, 100}, {24, 25},
            {99, 100}, {1, 1}};
        for (int tenths = 1; tenths <= 10; tenths++) {
            edges.all("1 - (1 - " + tenths + "/10)^2", Edges.lostOf(two, tenths), wants[tenths - 1]);
        }
        edges.all("1/2", Edges.shareOf(two, 0), 1, 2);
        edges.all("1", Edges.shareOf(Check.of("H00c0120c0240"), 0), 1, 1);
        edges.sentence("the numerator, which can be negative, if the argument upper is true, the denominator if it is"
            + " false.");
        edges.due("lost(3, true)", two.lost(3, true), 51);
        edges.due("lost(3, false)", two.lost(3, false), 100);
        edges.due("share(1, true)", two.share(1, true), 1);
        edges.due("share(1, false)", two.share(1, false), 2);
        edges.sentence("Errors are the same in both cases.");
        for (boolean upper : new boolean[] {true, false}) {
            edges.due("share(2)", two.share(2, upper), UNKNOWN);
            edges.due("lost(11)", two.lost(11, upper), OUTSIDE);
            edges.due("share(0) of a coin aside", twelve(4).share(0, upper), STATE);
            edges.due("lost(0) of nine", twelve(3).lost(0, upper), STATE);
        }
    }

    // ---- the seed

    private static long next(long seed) {
        BigInteger product = BigInteger.valueOf(seed).multiply(new BigInteger("6364136223846793005"));
        return product.add(new BigInteger("1442695040888963407")).longValue();
    }

    private static void seed() {
        edges.sentence("Returns the seed before.");
        CommonUnits x = new CommonUnits();
        long[] seeds = {0, 1, -1, Long.MAX_VALUE, Long.MIN_VALUE, 1L << 32, 1L << 31, -(1L << 32), 5};
        long before = 0;
        for (long seed : seeds) {
            edges.due("seed(" + seed + ")", x.seed(seed), before);
            before = seed;
        }
        edges.sentence("Sets the seed of drawn().");
        edges.due("acts", x.count(7), 0);
        edges.due("seed(12345) of this state", Edges.rich().seed(12345), 12345);
        edges.changingNothing(Edges::rich, "seed(12345)", y -> y.seed(12345));
    }

    private static void seedWrapsAround() {
        edges.sentence("the seed x (a long) becomes x * 6364136223846793005L + 1442695040888963407L (with overflow)");
        long[] seeds = {0, 1, -1, 2, Long.MAX_VALUE, Long.MIN_VALUE, 1L << 32, 4611686018427387904L};
        for (long seed : seeds) {
            CommonUnits x = new CommonUnits();
            x.seed(seed);
            x.drawn(1);
            edges.due("the seed after " + seed, x.seed(seed), next(seed));
            x.drawn(20);
            long twenty = seed;
            for (int k = 0; k < 20; k++) {
                twenty = next(twenty);
            }
            edges.due("the seed after twenty from " + seed, x.seed(0), twenty);
        }
    }

    /** Whether the coin that this seed brings is recognized, by trying all multiples of all units. */
    private static int recognized(long seed, int rate, int law, int... units) {
        long v = seed >>> 33;
        int mint = (int) (v % units.length);
        int weight = weightOf(seed, rate, law, units);
        int wear = wearOf(seed, rate, law);
        int best = -1;
        int least = wear + 1;
        for (int m = 0; m < units.length; m++) {
            for (int n = 1; n <= 12; n++) {
                int loss = n * units[m] - weight;
                if (loss >= 0 && loss < least) {
                    least = loss;
                    best = m;
                }
            }
        }
        return weight >= 1 && best == mint ? 1 : 0;
    }

    private static int wearOf(long seed, int rate, int law) {
        int years = (int) ((seed >>> 33) / 64 % 10);
        int slow = years <= 4 ? rate * years : rate * 4 + rate * (years - 4) / 2;
        return law == 0 ? rate * years : law == 1 ? slow : rate * years * years / 4;
    }

    private static int weightOf(long seed, int rate, int law, int... units) {
        long v = seed >>> 33;
        long taken = v / 1024 % (wearOf(seed, rate, law) + 1);
        return (int) ((1 + v / 4 % 12) * units[(int) (v % units.length)] - taken);
    }

    private static String hoardOf(int rate, int law, int... units) {
        StringBuilder text = new StringBuilder("H").append(rate).append(law);
        for (int unit : units) {
            text.append(String.format("m%03d", unit));
        }
        return text.toString();
    }

    private static void drawnCoins() {
        edges.sentence("with the multiple n = 1 + v / 4 % 12, and is v / 64 % 10 years old; the wear has taken v /"
            + " 1024 % (its greatest wear + 1), so that its weight is n times the unit of the mint minus this");
        int[][] mints = {{1}, {999}, {2, 3}, {100, 100}, {70, 110, 97}, {1, 999, 1}, {999, 998, 997}, {500, 250, 125}};
        for (int[] units : mints) {
            for (int rate : new int[] {0, 1, 5, 9}) {
                for (int law = 0; law <= 2; law++) {
                    drawnFrom(rate, law, units);
                }
            }
        }
        edges.sentence("Returns how many of them are recognized (0 without mints)");
        CommonUnits x = new CommonUnits();
        for (int m = 1; m <= 20; m++) {
            edges.due("drawn(" + m + ") without mints", x.drawn(m), 0);
        }
    }

    private static void drawnFrom(int rate, int law, int... units) {
        CommonUnits x = Check.of(hoardOf(rate, law, units));
        long seed = 0;
        for (int m : new int[] {1, 2, 19, 20, 20, 20, 1}) {
            int want = 0;
            for (int k = 0; k < m; k++) {
                seed = next(seed);
                want += recognized(seed, rate, law, units);
            }
            edges.due("drawn(" + m + ") of " + hoardOf(rate, law, units), x.drawn(m), want);
        }
        edges.due("the seed", x.seed(0), seed);
    }

    /** The coins of a unit of 1 are recognized down to a weight of 1; the heaviest ones, too. */
    private static void drawnAtTheEdges() {
        edges.sentence("The coin is recognized if its weight is at least 1 and it is of this mint");
        int[] ofWeight = new int[3];
        for (long start = 0; start < 3000; start++) {
            int weight = weightOf(next(start), 9, 2, 1);
            if (weight >= -1 && weight <= 1) {
                ofWeight[weight + 1]++;
                CommonUnits x = Check.of("H92m001");
                x.seed(start);
                edges.due("drawn(1) of a coin of " + weight, x.drawn(1), weight == 1 ? 1 : 0);
            }
        }
        edges.holds("there are coins of -1, 0 and 1", ofWeight[0] > 0 && ofWeight[1] > 0 && ofWeight[2] > 0);
        edges.sentence("the weight can be greater than 999, or less than 1");
        int heaviest = 0;
        for (long start = 0; start < 300; start++) {
            int weight = weightOf(next(start), 0, 0, 999);
            heaviest = Math.max(heaviest, weight);
            CommonUnits x = Check.of("H00m999");
            x.seed(start);
            edges.due("drawn(1) of a coin of " + weight, x.drawn(1), 1);
        }
        edges.due("the heaviest coin", heaviest, 12 * 999);
    }

    /** A seed below 0 has its highest bit in v, too. */
    private static void drawnFromNegativeSeeds() {
        edges.sentence("let v be (int) (x >>> 33)");
        int negative = 0;
        for (long start = 0; start < 100; start++) {
            long seed = next(start);
            negative += seed < 0 ? 1 : 0;
            CommonUnits x = Check.of("H50m070m110m097");
            x.seed(start);
            edges.due("drawn(1) from " + start, x.drawn(1), recognized(seed, 5, 0, 70, 110, 97));
        }
        edges.holds("seeds of both signs", negative > 20 && negative < 80);
    }

    private static void drawnByMints() {
        edges.sentence("The coin is struck by mint v % (number of mints)");
        // Of mints with the same unit the first one is the mint of every coin.
        for (long start = 0; start < 60; start++) {
            long v = next(start) >>> 33;
            for (int mints = 1; mints <= 3; mints++) {
                CommonUnits x = Check.of("H00" + "m100".repeat(mints));
                x.seed(start);
                edges.due("drawn(1) by " + mints + " mints", x.drawn(1), v % mints == 0 ? 1 : 0);
            }
        }
        edges.sentence("Nothing changes but the seed (it changes without mints, too).");
        CommonUnits x = Edges.rich();
        x.drawn(20);
        x.seed(12345);
        edges.holds("drawn(20) changes but the seed", Probe.of(x).equals(Probe.of(Edges.rich())));
        CommonUnits none = new CommonUnits();
        none.drawn(1);
        edges.due("the seed without mints", none.seed(0), next(0));
        edges.holds("nothing else without mints", Probe.of(none).equals(Probe.of(new CommonUnits())));
    }

    private static void drawnErrors() {
        edges.sentence("OUTSIDE if m is out of range.");
        for (int m : new int[] {0, 21, -1, MIN, MAX}) {
            edges.refused(Edges::rich, "drawn(" + m + ")", x -> x.drawn(m), OUTSIDE);
            edges.refused(CommonUnits::new, "drawn(" + m + ") without mints", x -> x.drawn(m), OUTSIDE);
        }
    }

    // ---- numbers

    private static void count() {
        edges.sentence("Returns the number; OUTSIDE if what is not 0 to 8.");
        for (int what : new int[] {-1, 9, MIN, MAX}) {
            edges.refused(Edges::rich, "count(" + what + ")", x -> x.count(what), OUTSIDE);
            edges.refused(CommonUnits::new, "count(" + what + ")", x -> x.count(what), OUTSIDE);
        }
        edges.sentence("0 for the length of the text, 1 for the number of coins, 2 for the number of mints, 3 for the"
            + " rate, 4 for the wear rule, 5 for the set of the coins that are aside");
        int[] wants = {12, 3, 2, 2, 2, 4, 2, 6, 2};
        for (int what = 0; what <= 8; what++) {
            int asked = what;
            edges.asked(Edges::rich, "count(" + what + ")", x -> x.count(asked), wants[what]);
        }
        edges.sentence("5 for the set of the coins that are aside, 6 for the set of the coins that are false and not"
            + " aside");
        CommonUnits x = Edges.primes(12);
        edges.due("all are false without mints", x.count(6), 4095);
        x.aside(11);
        edges.due("without the last", x.count(6), 2047);
        edges.due("the last is aside", x.count(5), 2048);
        x.aside(0);
        edges.due("without the first", x.count(6), 2046);
        edges.due("both are aside", x.count(5), 2049);
        CommonUnits y = Check.of("H10c0505c0560c0040m005");
        edges.due("those that do not fit", y.count(6), 6);
        y.strike(0, 4);
        edges.due("those that do not fit by 4", y.count(6), 3);
        y.strike(0, 1);
        edges.due("those that do not fit by 1", y.count(6), 3);
        edges.sentence("7 for how many acts can be undone, 8 for the number of observations");
        edges.due("acts", y.count(7), 2);
        edges.due("observations", y.count(8), 0);
    }

    private static void noneIsNoError() {
        edges.sentence("NONE (-9) means that there is no such thing; it is not an error, and it is returned only if no"
            + " error applies.");
        CommonUnits x = Check.of("H10c0505");
        x.see(0, 1);
        x.see(0, 0);
        edges.due("coin(0, 4)", x.coin(0, 4), NONE);
        edges.due("coin(1, 4)", x.coin(1, 4), UNKNOWN);
        edges.due("fits(0, 56, 0)", x.fits(0, 56, 0), NONE);
        edges.due("fits(1, 56, 0)", x.fits(1, 56, 0), UNKNOWN);
        edges.due("fits(0, 1000, 0)", x.fits(0, 1000, 0), OUTSIDE);
        edges.due("chain(0, 0)", x.chain(0, 0), NONE);
        edges.due("chain(0, -1)", x.chain(0, -1), OUTSIDE);
        edges.due("chain(1, 0)", x.chain(1, 0), UNKNOWN);
        edges.due("which(1)", x.which(1), NONE);
        edges.due("which(3)", x.which(3), OUTSIDE);
        edges.due("judge(1, 500900)", x.judge(1, 500900), NONE);
        edges.due("judge(0, 500900)", x.judge(0, 500900), OUTSIDE);
        edges.due("judge(1, -1)", x.judge(1, -1), OUTSIDE);
    }
}
