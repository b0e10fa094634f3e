import java.util.Arrays;

/** The edges of what the document says on units, ranks and pairs, and of the promises 15 to 19. */
public final class UnitEdgesTest {
    private static final int UNKNOWN = Edges.UNKNOWN, OUTSIDE = Edges.OUTSIDE, NONE = Edges.NONE;
    private static final int MIN = Edges.MIN, MAX = Edges.MAX;
    private static Edges edges;

    public static void main(String[] args) {
        edges = new Edges("UnitEdgesTest", args);
        fits();
        chain();
        explains();
        unit();
        ranks();
        moreCoinsFirst();
        smallerLossesFirst();
        greaterUnitFirst();
        wholeRanking();
        ranked();
        twoDifferentUnits();
        asManyAsPossible();
        smallestSumOfPair();
        smallerLossOfBoth();
        smallestUnits();
        pair();
        edges.end();
    }

    private static void fits() {
        edges.sentence("Returns that value; UNKNOWN if there is no such coin; OUTSIDE if unit is out of range or what"
            + " is not 0 to 3.");
        CommonUnits x = Check.of("H10c0010c9990");
        edges.all("the smallest unit", Edges.fitsAll(x, 0, 1), 1, 0, 0, 0);
        edges.all("the greatest unit", Edges.fitsAll(x, 1, 999), 1, 0, 0, 0);
        for (int unit : new int[] {0, 1000, -1, MIN, MAX}) {
            for (int what : new int[] {-1, 0, 1, 2, 3, 4}) {
                edges.refused(Edges::rich, "fits(0, " + unit + ", " + what + ")", y -> y.fits(0, unit, what), OUTSIDE);
            }
            edges.refused(Edges::rich, "fits(3, " + unit + ", 4)", y -> y.fits(3, unit, 4), UNKNOWN);
            edges.refused(Edges::rich, "fits(-1, " + unit + ", 0)", y -> y.fits(-1, unit, 0), UNKNOWN);
        }
        for (int what : new int[] {-1, 4, MIN, MAX}) {
            edges.refused(Edges::rich, "fits(2, 1, " + what + ")", y -> y.fits(2, 1, what), OUTSIDE);
            edges.refused(Edges::rich, "fits(2, 48, " + what + ")", y -> y.fits(2, 48, what), OUTSIDE);
            edges.refused(Edges::rich, "fits(3, 1, " + what + ")", y -> y.fits(3, 1, what), UNKNOWN);
        }
        edges.refused(Edges::rich, "fits(3, 1, 0)", y -> y.fits(3, 1, 0), UNKNOWN);
        edges.refused(CommonUnits::new, "fits(0, 1, 0)", y -> y.fits(0, 1, 0), UNKNOWN);
        edges.sentence("0 for the multiple (NONE if it does not fit), 1 for the loss (NONE if it does not fit), 2 for"
            + " the reason (0 if it fits), 3 for the excess (0 if it fits)");
        // Coin 2 of this state weighs 48 and is new and aside.
        int[] fitting = {2, 0, 0, 0};
        int[] failing = {NONE, NONE, 2, 1};
        for (int what = 0; what <= 3; what++) {
            int asked = what;
            edges.asked(Edges::rich, "fits(2, 24, " + what + ")", y -> y.fits(2, 24, asked), fitting[what]);
            edges.asked(Edges::rich, "fits(2, 49, " + what + ")", y -> y.fits(2, 49, asked), failing[what]);
        }
    }

    private static void chain() {
        edges.sentence("Returns the reason why it does not fit the unit of mint (number of mints) - 1 - k; NONE if the"
            + " coin is not false or there is no such mint; UNKNOWN if there is no such coin; OUTSIDE if k is"
            + " negative.");
        // 100 with up to 5 of wear: 12 * 8 is light, 106 is heavy, 99 is between.
        String coin = "H10c1005";
        String[] mints = {"", "m008", "m008m106", "m008m106m099", "m099m106m008"};
        int[][] wants = {{}, {1}, {2, 1}, {3, 2, 1}, {1, 2, 3}};
        for (int n = 0; n < mints.length; n++) {
            CommonUnits x = Check.of(coin + mints[n]);
            for (int k = 0; k < wants[n].length; k++) {
                edges.due("chain(0, " + k + ") of " + mints[n], x.chain(0, k), wants[n][k]);
            }
            for (int k : new int[] {wants[n].length, 3, 4, 100, MAX - 1, MAX}) {
                edges.due("chain(0, " + k + ") of " + mints[n], x.chain(0, k), NONE);
            }
            for (int k : new int[] {-1, -2, MIN, MIN + 1}) {
                edges.due("chain(0, " + k + ") of " + mints[n], x.chain(0, k), OUTSIDE);
            }
        }
        CommonUnits one = Check.of(coin + "m008m050m099");
        for (int k = 0; k <= 3; k++) {
            edges.due("chain(0, " + k + ") of a coin that fits one mint", one.chain(0, k), NONE);
        }
        edges.due("chain(0, -1) of a coin that is not false", one.chain(0, -1), OUTSIDE);
        one.aside(0);
        one.strike(1, 106);
        edges.due("chain(0, 1) of a coin aside", one.chain(0, 1), 2);
        for (int k : new int[] {-1, MIN}) {
            edges.refused(Edges::rich, "chain(0, " + k + ") of a coin that is not false", x -> x.chain(0, k), OUTSIDE);
            edges.refused(Edges::rich, "chain(1, " + k + ") of a false coin", x -> x.chain(1, k), OUTSIDE);
            edges.refused(Edges::rich, "chain(3, " + k + ")", x -> x.chain(3, k), UNKNOWN);
            edges.refused(Edges::rich, "chain(-1, " + k + ")", x -> x.chain(-1, k), UNKNOWN);
        }
        edges.refused(Edges::rich, "chain(3, 0)", x -> x.chain(3, 0), UNKNOWN);
        edges.refused(CommonUnits::new, "chain(0, 0) without coins", x -> x.chain(0, 0), UNKNOWN);
        edges.asked(Edges::rich, "chain(1, 0)", x -> x.chain(1, 0), 3);
        edges.asked(Edges::rich, "chain(1, 2)", x -> x.chain(1, 2), NONE);
        edges.asked(Edges::rich, "chain(0, 0)", x -> x.chain(0, 0), NONE);
    }

    private static void explains() {
        edges.sentence("0 for the number of coins that it explains, 1 for the set of these coins (bit k for coin k), 2"
            + " for the sum of their losses by it, 3 for its rank");
        // Two coins by 12, 6, 4, 3 and 2 with a loss of 1 and by 13 with 2; one by 24, 11, 8 and 1.
        CommonUnits y = Check.of("H10c0112c0130c0240");
        edges.all("12 explains 11 and 24", Edges.unitAll(y, 12), 2, 5, 1, 0);
        edges.all("13 explains 11 and 13", Edges.unitAll(y, 13), 2, 3, 2, 5);
        edges.all("1 explains 11", Edges.unitAll(y, 1), 1, 1, 0, 9);
        edges.all("999 explains none", Edges.unitAll(y, 999), 0, 0, 0, 10);
        edges.sentence("A unit explains the coins that are not aside and fit it.");
        CommonUnits x = Check.of("H92" + "c0019".repeat(12));
        edges.due("all twelve", x.unit(183, 0), 12);
        edges.due("the set of all", x.unit(183, 1), 4095);
        edges.due("the losses of all", x.unit(183, 2), 12 * 182);
        edges.due("one unit more", x.unit(184, 0), 0);
        x.aside(0);
        edges.due("without the first", x.unit(183, 1), 4094);
        x.aside(11);
        edges.due("without the last", x.unit(183, 1), 2046);
        edges.due("losses of ten", x.unit(183, 2), 10 * 182);
        for (int coin = 1; coin <= 10; coin++) {
            x.aside(coin);
        }
        edges.all("all are aside", Edges.unitAll(x, 183), 0, 0, 0, 999 - 183);
    }

    private static void unit() {
        edges.sentence("Returns the property; OUTSIDE if unit is out of range or what is not 0 to 3.");
        edges.all("the smallest unit", Edges.unitAll(Check.of("H10c0010"), 1), 1, 1, 0, 0);
        edges.all("the greatest unit", Edges.unitAll(Check.of("H10c9990"), 999), 1, 1, 0, 0);
        for (int unit : new int[] {0, 1000, -1, MIN, MAX}) {
            for (int what = -1; what <= 4; what++) {
                int asked = what;
                edges.refused(Edges::rich, "unit(" + unit + ", " + what + ")", x -> x.unit(unit, asked), OUTSIDE);
            }
        }
        for (int what : new int[] {-1, 4, MIN, MAX}) {
            edges.refused(Edges::rich, "unit(1, " + what + ")", x -> x.unit(1, what), OUTSIDE);
            edges.refused(Edges::rich, "unit(999, " + what + ")", x -> x.unit(999, what), OUTSIDE);
            edges.refused(CommonUnits::new, "unit(48, " + what + ")", x -> x.unit(48, what), OUTSIDE);
        }
        // 96, which may have lost 12, and 60, which may have lost 4; 48, which is aside.
        int[] wants = {1, 1, 0};
        for (int what = 0; what <= 2; what++) {
            int asked = what;
            edges.asked(Edges::rich, "unit(48, " + what + ")", x -> x.unit(48, asked), wants[what]);
        }
    }

    private static void ranks() {
        edges.sentence("The units 1 to 999 are ranked, from rank 0 to rank 998");
        // Without coins all are equal: the greatest unit is the first.
        for (int half = 0; half < 3; half++) {
            CommonUnits x = new CommonUnits();
            for (int rank = 333 * half; rank < 333 * half + 333; rank++) {
                edges.due("ranked(" + rank + ") without coins", x.ranked(rank), 999 - rank);
            }
            CommonUnits y = new CommonUnits();
            for (int rank = 333 * half; rank < 333 * half + 333; rank++) {
                edges.due("unit(" + (999 - rank) + ", 3) without coins", y.unit(999 - rank, 3), rank);
            }
        }
    }

    private static void firstRanks(CommonUnits x, int... units) {
        for (int rank = 0; rank < units.length; rank++) {
            edges.due("ranked(" + rank + ")", x.ranked(rank), units[rank]);
            edges.due("unit(" + units[rank] + ", 3)", x.unit(units[rank], 3), rank);
        }
    }

    private static void moreCoinsFirst() {
        edges.sentence("by the number of coins that they explain, the greatest first");
        firstRanks(Check.of("H00c0120c0240"), 12, 6, 4, 3, 2, 24, 8, 1, 999, 998);
        // Eleven coins of 1 that may have lost 182 each, and one of 998 that is new.
        CommonUnits x = Check.of("H92" + "c0019".repeat(11) + "c9980");
        edges.due("eleven coins with losses of 2002", x.unit(183, 3), 182);
        edges.due("one coin without loss", x.unit(998, 3), 183);
        edges.due("one coin without loss, half the unit", x.unit(499, 3), 184);
        edges.due("no coin", x.unit(999, 3), 185);
        edges.due("no coin, the smallest such unit", x.unit(184, 3), 998);
        firstRanks(Edges.primes(12), 997, 991, 983, 977, 971, 967, 953, 947, 941, 937, 929, 919, 999);
        // One coin with the greatest loss is still more than none.
        CommonUnits one = Check.of("H92c0019");
        edges.due("a loss of 182", one.unit(183, 3), 182);
        edges.due("no coin, the greatest unit", one.unit(999, 3), 183);
    }

    private static void smallerLossesFirst() {
        edges.sentence("units that explain equally many by the sum of the losses of these coins, the smallest first");
        firstRanks(Check.of("H10c0112"), 11, 1, 12, 6, 4, 3, 2, 13, 999, 998);
        // Twelve coins: sums of 0, 12, 24 and so on, up to 2184.
        CommonUnits x = Check.of("H92" + "c0019".repeat(12));
        for (int unit : new int[] {1, 2, 3, 100, 182, 183}) {
            edges.due("unit(" + unit + ", 3)", x.unit(unit, 3), unit - 1);
            edges.due("unit(" + unit + ", 2)", x.unit(unit, 2), 12 * (unit - 1));
        }
        // Three coins with losses of 2 by 2 and 3 by 3; two with 0 by 1, 1 by 12, 6 and 4, 2 by 13; then one coin.
        firstRanks(Check.of("H10c0132c0112c0120"), 2, 3, 1, 12, 6, 4, 13, 11, 14, 7, 15, 5, 999, 998);
    }

    private static void greaterUnitFirst() {
        edges.sentence("of equal ones the greatest unit first");
        firstRanks(Check.of("H00c0010"), 1, 999, 998);
        firstRanks(Check.of("H00c9990"), 999, 333, 111, 998, 997);
        CommonUnits x = Check.of("H00c9990");
        edges.due("the last rank", x.ranked(998), 1);
        edges.due("the last but one", x.ranked(997), 2);
        edges.due("unit 1", x.unit(1, 3), 998);
        CommonUnits y = Check.of("H00c0010");
        edges.due("the last rank", y.ranked(998), 2);
    }

    /** The whole order, by objects that are asked for a part of it each. */
    private static void wholeRanking() {
        edges.sentence("by the number of coins that they explain, the greatest first; units that explain equally many"
            + " by the sum of the losses of these coins, the smallest first; of equal ones the greatest unit first.");
        String[] texts = {"H92" + "c0019".repeat(12), "H10c0112c0240c9990c0010",
            "H21c1234c2345c3456c4567c5678c6789c7899", "H92c9999c9989c5009c2509c1009c0019"};
        for (String text : texts) {
            boolean[] seen = new boolean[1000];
            int[] before = null;
            for (int from = 0; from < 999; from += 37) {
                CommonUnits x = Check.of(text);
                for (int rank = from; rank < from + 37; rank++) {
                    int unit = x.ranked(rank);
                    edges.holds("ranked(" + rank + ") is a unit not seen yet", unit >= 1 && unit <= 999 && !seen[unit]);
                    seen[Math.floorMod(unit, 1000)] = true;
                    int[] now = {-x.unit(unit, 0), x.unit(unit, 2), -unit};
                    edges.holds("rank " + rank + " of " + text, before == null || Arrays.compare(before, now) < 0);
                    edges.due("unit(" + unit + ", 3)", x.unit(unit, 3), rank);
                    before = now;
                }
            }
        }
    }

    private static void ranked() {
        edges.sentence("Returns the unit; UNKNOWN if there is no such rank.");
        for (int rank : new int[] {-1, 999, 1000, MIN, MAX}) {
            edges.refused(Edges::rich, "ranked(" + rank + ")", x -> x.ranked(rank), UNKNOWN);
            edges.refused(CommonUnits::new, "ranked(" + rank + ")", x -> x.ranked(rank), UNKNOWN);
        }
        edges.asked(CommonUnits::new, "ranked(0)", x -> x.ranked(0), 999);
        edges.asked(CommonUnits::new, "ranked(998)", x -> x.ranked(998), 1);
        edges.asked(CommonUnits::new, "ranked(997)", x -> x.ranked(997), 2);
    }

    private static void pairOf(String text, int... wants) {
        edges.all("pair of " + text, Edges.pairAll(Check.of(text)), wants);
    }

    private static void twoDifferentUnits() {
        edges.sentence("The best pair consists of two different units u and v from 1 to 999, u less than v");
        pairOf("H10", 1, 2, 0, 0);
        pairOf("H00c0010", 1, 2, 1, 0);
        pairOf("H00c0020", 1, 2, 1, 0);
        pairOf("H00c0130", 1, 13, 1, 0);
        pairOf("H00c9970", 1, 997, 1, 0);
        // Both are primes that fit nothing but themselves: the greatest pair that there can be.
        pairOf("H00c9970c9910", 991, 997, 3, 0);
        pairOf("H00c9910c9970", 991, 997, 3, 0);
        pairOf("H00c9990", 1, 111, 1, 0);
        CommonUnits x = Check.of("H00c9970c9910");
        x.aside(0);
        edges.all("one aside", Edges.pairAll(x), 1, 991, 2, 0);
        x.aside(1);
        edges.all("both aside", Edges.pairAll(x), 1, 2, 0, 0);
        x.aside(0);
        edges.all("the other aside", Edges.pairAll(x), 1, 997, 1, 0);
    }

    private static void asManyAsPossible() {
        edges.sentence("such that as many coins as possible that are not aside fit at least one of both");
        // 991 may have lost 6 and then is of 997, so that three coins fit; without wear two do.
        pairOf("H10c9970c9916c9830", 983, 997, 7, 6);
        pairOf("H00c9970c9916c9830", 983, 991, 6, 0);
        pairOf("H10c9970c9915c9830", 983, 991, 6, 0);
        pairOf("H92" + "c0019".repeat(12), 1, 2, 4095, 0);
        pairOf("H00" + "c9970".repeat(12), 1, 997, 4095, 0);
        // Ten coins of 991 that may have lost 6: by 997 they lose 60 in all, and still one coin more fits.
        pairOf("H10c9970c9830" + "c9916".repeat(10), 983, 997, 4095, 60);
        pairOf("H10c9970c9830" + "c9915".repeat(10), 983, 991, 4094, 0);
        edges.all("twelve that are apart", Edges.pairAll(Edges.primes(12)), 919, 929, 3072, 0);
        // 1 and 991 explain three coins, and so do 991 and 997.
        pairOf("H10c9910c9970c9916c0010", 1, 991, 13, 0);
        CommonUnits x = Check.of("H10c9970c9916c9830");
        x.aside(1);
        edges.all("without the middle one", Edges.pairAll(x), 983, 997, 5, 0);
    }

    private static void smallestSumOfPair() {
        edges.sentence("of several pairs the one with the smallest sum of the losses of these coins");
        // 13 fits both, with a loss of 2; with 1 or 11 beside it there is none.
        pairOf("H10c0112c0130", 1, 13, 3, 0);
        pairOf("H10c0783c0253c0333", 3, 13, 7, 1);
        pairOf("H10c0673c0092c1002c0700", 10, 67, 15, 1);
    }

    private static void smallerLossOfBoth() {
        edges.sentence("(by the unit that the coin fits, if it fits both by the one with the smaller loss)");
        // 31 is 33 less 2 and 31: the greater unit has the smaller loss.
        pairOf("H10c0330c0313c0302", 3, 31, 7, 0);
        // 11 is 13 less 2 and 11 * 1: the smaller unit has the smaller loss.
        pairOf("H10c0112c0130", 1, 13, 3, 0);
        // 25 is 27 less 2 and 26 less 1.
        pairOf("H10c0783c0253c0333", 3, 13, 7, 1);
    }

    private static void smallestUnits() {
        edges.sentence("of several the one with the smallest u, then with the smallest v.");
        // 300 is a multiple of 25, 30, 50, 60, 75, 100, 150 and 300: any unit may stand beside one of them.
        pairOf("H00c3000", 1, 25, 1, 0);
        pairOf("H00c0120c0350", 1, 5, 3, 0);
        pairOf("H00c0120c0240", 1, 2, 3, 0);
        pairOf("H00c0130c0170", 13, 17, 3, 0);
        pairOf("H00c0170c0130", 13, 17, 3, 0);
        // 26 fits 13 and 26, 34 fits 17 and 34.
        pairOf("H00c0260c0340", 13, 17, 3, 0);
    }

    private static void pair() {
        edges.sentence("Returns the property; OUTSIDE if what is not 0 to 3.");
        for (int what : new int[] {-1, 4, MIN, MAX}) {
            edges.refused(Edges::rich, "pair(" + what + ")", x -> x.pair(what), OUTSIDE);
            edges.refused(CommonUnits::new, "pair(" + what + ")", x -> x.pair(what), OUTSIDE);
        }
        int[] wants = {1, 2, 0, 0};
        for (int what = 0; what <= 3; what++) {
            int asked = what;
            edges.asked(CommonUnits::new, "pair(" + what + ")", x -> x.pair(asked), wants[what]);
        }
        edges.sentence("2 for the set of the coins that are not aside and fit at least one of both (bit k for coin k),"
            + " 3 for the sum of their losses, as described above");
        CommonUnits twelve = Check.of("H10" + "c9916".repeat(6) + "c9970".repeat(5) + "c9830");
        edges.all("all twelve", Edges.pairAll(twelve), 983, 997, 4095, 36);
        twelve.aside(0);
        edges.all("without the first", Edges.pairAll(twelve), 983, 997, 4094, 30);
        twelve.aside(11);
        edges.all("without the last, so that no loss is needed", Edges.pairAll(twelve), 991, 997, 2046, 0);
    }
}
