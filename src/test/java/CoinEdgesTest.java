import java.util.List;

/** The edges of "Coins, mints and wear", sentence by sentence, and of the promises 1, 6 and 7. */
public final class CoinEdgesTest {
    private static final int UNKNOWN = Edges.UNKNOWN, OUTSIDE = Edges.OUTSIDE, STATE = Edges.STATE, NONE = Edges.NONE;
    private static final int MIN = Edges.MIN, MAX = Edges.MAX;
    private static Edges edges;

    public static void main(String[] args) {
        edges = new Edges("CoinEdgesTest", args);
        coinsAreFew();
        weightsAndYears();
        mintsAreFew();
        unitsOfMints();
        rateAndRule();
        atFirst();
        asideAtFirst();
        wearByRule();
        fittingAtBothEnds();
        smallestMultiple();
        reasons();
        excess();
        everyUnit();
        smallestLoss();
        falseCoins();
        asideCoinsHaveMints();
        newObject();
        coin();
        mint();
        edges.end();
    }

    /** So many coins, of 101 and on, 0 to 9 years old, without mints. */
    private static CommonUnits someCoins(int number) {
        StringBuilder text = new StringBuilder("H10");
        for (int coin = 0; coin < number; coin++) {
            text.append('c').append(101 + coin).append(coin % 10);
        }
        return Check.of(text.toString());
    }

    private static CommonUnits someMints(int number) {
        StringBuilder text = new StringBuilder("H10c1000");
        for (int mint = 0; mint < number; mint++) {
            text.append('m').append(201 + mint);
        }
        return Check.of(text.toString());
    }

    private static List<Edges.Call> callsWithCoin(int coin) {
        return List.of(x -> x.coin(coin, 0), x -> x.clean(coin, 5), x -> x.date(coin, 5), x -> x.aside(coin),
            x -> x.fits(coin, 5, 0), x -> x.chain(coin, 0), x -> x.see(coin, 1), x -> x.share(coin, true),
            x -> x.share(coin, false));
    }

    private static void coinsAreFew() {
        edges.sentence("There are at most 12 coins, numbered from 0");
        for (int number = 0; number <= 12; number++) {
            CommonUnits x = someCoins(number);
            edges.due("coins", x.count(1), number);
            for (int coin = 0; coin < number; coin++) {
                edges.due("weight of " + coin + " of " + number, x.coin(coin, 0), 101 + coin);
            }
            for (int coin = 0; coin <= 99; coin++) {
                edges.due("judge: coin " + coin + " of " + number, x.judge(1, 100001 + coin * 1000),
                    coin < number ? NONE : 0);
            }
            for (int coin : new int[] {-1, number, 12, 13, MIN, MAX}) {
                for (Edges.Call call : callsWithCoin(coin)) {
                    edges.due("a call with coin " + coin + " of " + number, call.on(x), UNKNOWN);
                }
            }
        }
        for (int coin : new int[] {-1, 3, MIN, MAX}) {
            for (Edges.Call call : callsWithCoin(coin)) {
                edges.refused(Edges::rich, "a call with coin " + coin + " of 3", call, UNKNOWN);
            }
        }
        CommonUnits thirteen = new CommonUnits();
        Check.type(thirteen, "H10" + "c1005".repeat(13));
        edges.due("hoard() of thirteen", thirteen.hoard(), STATE);
        edges.due("coins", thirteen.count(1), 0);
    }

    private static void weightsAndYears() {
        edges.sentence("a coin has a weight (1 to 999) and an age (0 to 9 years)");
        CommonUnits x = Check.of("H10c0010c9999");
        edges.due("least weight", x.coin(0, 0), 1);
        edges.due("least age", x.coin(0, 1), 0);
        edges.due("greatest weight", x.coin(1, 0), 999);
        edges.due("greatest age", x.coin(1, 1), 9);
        edges.due("clean(0, 999)", x.clean(0, 999), 1);
        edges.due("clean(0, 1)", x.clean(0, 1), 999);
        edges.due("date(0, 9)", x.date(0, 9), 0);
        edges.due("date(0, 0)", x.date(0, 0), 9);
        edges.due("a step to 1", x.judge(1, 100001), NONE);
        edges.due("a step to 999", x.judge(1, 100999), NONE);
        edges.due("a step to 0", x.judge(1, 100000), 0);
        for (int weight : new int[] {0, 1000, -1, MIN, MAX}) {
            edges.refused(Edges::rich, "clean(1, " + weight + ")", y -> y.clean(1, weight), OUTSIDE);
        }
        for (int years : new int[] {-1, 10, MIN, MAX}) {
            edges.refused(Edges::rich, "date(1, " + years + ")", y -> y.date(1, years), OUTSIDE);
        }
        CommonUnits nothing = new CommonUnits();
        Check.type(nothing, "H10c0005");
        edges.due("a text with the weight 0", nothing.hoard(), STATE);
    }

    private static void mintsAreFew() {
        edges.sentence("There are at most 3 mints, numbered from 0");
        for (int number = 0; number <= 3; number++) {
            CommonUnits x = someMints(number);
            edges.due("mints", x.count(2), number);
            for (int mint = 0; mint < number; mint++) {
                edges.due("unit of " + mint, x.mint(mint, 0), 201 + mint);
            }
            for (int mint = 0; mint <= 9; mint++) {
                edges.due("judge: mint " + mint + " of " + number, x.judge(1, 400001 + mint * 10000),
                    mint < number ? NONE : 0);
            }
            for (int mint : new int[] {-1, number, 3, 4, NONE, MIN, MAX}) {
                edges.due("mint(" + mint + ", 0)", x.mint(mint, 0), UNKNOWN);
                edges.due("strike(" + mint + ", 5)", x.strike(mint, 5), UNKNOWN);
            }
        }
        for (int mint : new int[] {-1, 2, 3, MIN, MAX}) {
            edges.refused(Edges::rich, "mint(" + mint + ", 1)", x -> x.mint(mint, 1), UNKNOWN);
            edges.refused(Edges::rich, "strike(" + mint + ", 5)", x -> x.strike(mint, 5), UNKNOWN);
        }
        CommonUnits four = new CommonUnits();
        Check.type(four, "H10m001m002m003m004");
        edges.due("hoard() of four mints", four.hoard(), STATE);
        edges.due("mints", four.count(2), 0);
    }

    private static void unitsOfMints() {
        edges.sentence("a mint has a unit (1 to 999)");
        CommonUnits x = Check.of("H10m001m999");
        edges.due("least unit", x.mint(0, 0), 1);
        edges.due("greatest unit", x.mint(1, 0), 999);
        edges.due("strike(0, 999)", x.strike(0, 999), 1);
        edges.due("strike(0, 1)", x.strike(0, 1), 999);
        edges.due("a step to 1", x.judge(1, 400001), NONE);
        edges.due("a step to 999", x.judge(1, 400999), NONE);
        edges.due("a step to 0", x.judge(1, 400000), 0);
        for (int unit : new int[] {0, 1000, -1, MIN, MAX}) {
            edges.refused(Edges::rich, "strike(1, " + unit + ")", y -> y.strike(1, unit), OUTSIDE);
        }
        CommonUnits nothing = new CommonUnits();
        Check.type(nothing, "H10m000");
        edges.due("a text with the unit 0", nothing.hoard(), STATE);
    }

    private static void rateAndRule() {
        edges.sentence("The rate is 0 to 9, and 1 at first.");
        edges.due("at first", new CommonUnits().count(3), 1);
        for (int rate = 0; rate <= 9; rate++) {
            CommonUnits x = new CommonUnits();
            edges.due("setRate(" + rate + ")", x.setRate(rate), 1);
            edges.due("rate", x.count(3), rate);
            edges.due("rate of a text", Check.of("H" + rate + "0").count(3), rate);
        }
        for (int rate : new int[] {-1, 10, MIN, MAX}) {
            edges.refused(Edges::rich, "setRate(" + rate + ")", x -> x.setRate(rate), OUTSIDE);
            edges.refused(CommonUnits::new, "setRate(" + rate + ")", x -> x.setRate(rate), OUTSIDE);
        }
        edges.sentence("The wear rule (law in the names of methods) is 0 to 2, and 0 at first.");
        edges.due("at first", new CommonUnits().count(4), 0);
        for (int law = 0; law <= 2; law++) {
            CommonUnits x = new CommonUnits();
            edges.due("setLaw(" + law + ")", x.setLaw(law), 0);
            edges.due("wear rule", x.count(4), law);
            edges.due("wear rule of a text", Check.of("H1" + law).count(4), law);
        }
        for (int law : new int[] {-1, 3, MIN, MAX}) {
            edges.refused(Edges::rich, "setLaw(" + law + ")", x -> x.setLaw(law), OUTSIDE);
            edges.refused(CommonUnits::new, "setLaw(" + law + ")", x -> x.setLaw(law), OUTSIDE);
        }
    }

    private static void atFirst() {
        edges.sentence("At first there are no coins and no mints.");
        CommonUnits x = new CommonUnits();
        edges.due("coins", x.count(1), 0);
        edges.due("mints", x.count(2), 0);
        for (Edges.Call call : callsWithCoin(0)) {
            edges.refused(CommonUnits::new, "a call with coin 0 of none", call, UNKNOWN);
        }
        edges.refused(CommonUnits::new, "mint(0, 0)", y -> y.mint(0, 0), UNKNOWN);
        edges.refused(CommonUnits::new, "strike(0, 1)", y -> y.strike(0, 1), UNKNOWN);
        edges.all("unit(1)", Edges.unitAll(x, 1), 0, 0, 0, 998);
        edges.all("unit(999)", Edges.unitAll(x, 999), 0, 0, 0, 0);
        edges.all("pair", Edges.pairAll(x), 1, 2, 0, 0);
        edges.all("which", Edges.whichAll(x), 999, 1, 999);
        edges.all("lost", Edges.lostOf(x, 5), 1, 1);
    }

    private static void asideAtFirst() {
        edges.sentence("Each coin can be aside; at first none is.");
        CommonUnits x = someCoins(12);
        edges.due("none is", x.count(5), 0);
        for (int coin = 0; coin < 12; coin++) {
            edges.due("coin(" + coin + ", 3)", x.coin(coin, 3), 0);
        }
        for (int coin = 0; coin < 12; coin++) {
            edges.due("aside(" + coin + ")", x.aside(coin), 1);
            edges.due("those aside", x.count(5), (2 << coin) - 1);
            edges.due("coin(" + coin + ", 3)", x.coin(coin, 3), 1);
        }
        edges.due("all are", x.count(5), 4095);
        edges.due("unit(101, 0) with all aside", x.unit(101, 0), 0);
        edges.due("ranked(0) with all aside", x.ranked(0), 999);
        edges.all("pair with all aside", Edges.pairAll(x), 1, 2, 0, 0);
        edges.all("lost with all aside", Edges.lostOf(x, 0), 1, 1);
    }

    private static void wearByRule() {
        CommonUnits x = Check.of(Edges.coins("H00", 1000, 1001, 1002, 1003, 1004, 1005, 1006, 1007, 1008, 1009));
        edges.sentence("wear rule 0: r * y");
        for (int rate = 0; rate <= 9; rate++) {
            x.setRate(rate);
            for (int years = 0; years <= 9; years++) {
                edges.due("rate " + rate + ", years " + years, x.coin(years, 2), rate * years);
            }
        }
        edges.sentence("wear rule 1: r * y if y is at most 4, otherwise r * 4 + (r * (y - 4)) / 2");
        x.setLaw(1);
        // Years 4, 5, 6 and 9: the last that wear in full, then every second one counts, rounded down.
        int[][] byRate = {{0, 0, 0, 0}, {4, 4, 5, 6}, {8, 9, 10, 13}, {12, 13, 15, 19}, {16, 18, 20, 26},
            {20, 22, 25, 32}, {24, 27, 30, 39}, {28, 31, 35, 45}, {32, 36, 40, 52}, {36, 40, 45, 58}};
        int[] years = {4, 5, 6, 9};
        for (int rate = 0; rate <= 9; rate++) {
            x.setRate(rate);
            edges.due("rate " + rate + ", years 0", x.coin(0, 2), 0);
            edges.due("rate " + rate + ", years 1", x.coin(1, 2), rate);
            for (int k = 0; k < years.length; k++) {
                edges.due("rate " + rate + ", years " + years[k], x.coin(years[k], 2), byRate[rate][k]);
            }
        }
        edges.sentence("wear rule 2: (r * y * y) / 4");
        x.setLaw(2);
        int[] ofNine = {0, 2, 9, 20, 36, 56, 81, 110, 144, 182};
        int[] ofOne = {0, 0, 1, 2, 4, 6, 9, 12, 16, 20};
        for (int age = 0; age <= 9; age++) {
            x.setRate(0);
            edges.due("rate 0, years " + age, x.coin(age, 2), 0);
            x.setRate(1);
            edges.due("rate 1, years " + age, x.coin(age, 2), ofOne[age]);
            x.setRate(9);
            edges.due("rate 9, years " + age, x.coin(age, 2), ofNine[age]);
        }
        edges.sentence("(divisions are rounded down)");
        CommonUnits y = Check.of(Edges.coins("H31", 1005, 1007, 1001, 1003));
        edges.due("12 + 3 / 2", y.coin(0, 2), 13);
        edges.due("12 + 9 / 2", y.coin(1, 2), 16);
        y.setLaw(2);
        edges.due("3 / 4", y.coin(2, 2), 0);
        edges.due("27 / 4", y.coin(3, 2), 6);
    }

    private static void fittingAtBothEnds() {
        edges.sentence("A coin fits a unit u if there is a number n from 1 to 12 such that n * u is at least its"
            + " weight, and at most its weight plus its greatest wear.");
        CommonUnits x = Check.of(Edges.coins("H10", 1005, 1200, 1210, 1219, 1190, 1191));
        edges.due("n is 1, n * u is the weight", x.fits(0, 100, 0), 1);
        edges.due("n is 1, n * u is one below the weight", x.fits(0, 99, 0), NONE);
        edges.due("n is 1, n * u is the weight and the wear", x.fits(0, 105, 0), 1);
        edges.due("n is 1, n * u is one above that", x.fits(0, 106, 0), NONE);
        edges.due("n is 2, n * u is the weight", x.fits(0, 50, 0), 2);
        edges.due("n is 2, n * u is one below the weight and the wear", x.fits(0, 52, 0), 2);
        edges.due("n is 2, n * u is one above that", x.fits(0, 53, 0), NONE);
        edges.due("n is 12", x.fits(1, 10, 0), 12);
        edges.due("n would be 13", x.fits(2, 10, 0), NONE);
        edges.due("n would be 13, though the wear would do", x.fits(3, 10, 0), NONE);
        edges.due("n is 12, one too heavy without wear", x.fits(4, 10, 0), NONE);
        edges.due("n is 12 with a loss of all the wear", x.fits(5, 10, 1), 1);
    }

    private static void smallestMultiple() {
        edges.sentence("The smallest such n is its multiple, and n * u minus its weight is its loss by this unit.");
        // 10 and up to 9 of wear: 12, 15 and 18 are multiples of 3 that would do.
        CommonUnits x = Check.of("H10c0109c0010");
        edges.all("fits(0, 3)", Edges.fitsAll(x, 0, 3), 4, 2, 0, 0);
        edges.all("fits(0, 1)", Edges.fitsAll(x, 0, 1), 10, 0, 0, 0);
        x.setRate(9);
        x.setLaw(2);
        x.date(1, 9);
        // 1 and up to 182 of wear: all twelve multiples of 15 would do.
        edges.all("fits(1, 15)", Edges.fitsAll(x, 1, 15), 1, 14, 0, 0);
        edges.all("fits(1, 1)", Edges.fitsAll(x, 1, 1), 1, 0, 0, 0);
        edges.all("fits(1, 183)", Edges.fitsAll(x, 1, 183), 1, 182, 0, 0);
        edges.all("fits(1, 184)", Edges.fitsAll(x, 1, 184), NONE, NONE, 2, 1);
    }

    private static void reasons() {
        CommonUnits x = Check.of(Edges.coins("H10", 1200, 1210, 1219, 9999, 9990, 1005, 10, 19));
        edges.sentence("If it does not fit the unit, there is a reason, the first of these that applies");
        edges.due("it fits: no reason", x.fits(0, 10, 2), 0);
        edges.sentence("1 (light): 12 * u is less than its weight; the excess is its weight minus 12 * u.");
        edges.all("12 * u is the weight", Edges.fitsAll(x, 0, 10), 12, 0, 0, 0);
        edges.all("12 * u is one less", Edges.fitsAll(x, 1, 10), NONE, NONE, 1, 1);
        edges.all("wear does not help", Edges.fitsAll(x, 2, 10), NONE, NONE, 1, 1);
        edges.all("12 * u is more, but not near", Edges.fitsAll(x, 4, 84), NONE, NONE, 3, 9);
        edges.all("the heaviest coin, the smallest unit", Edges.fitsAll(x, 4, 1), NONE, NONE, 1, 987);
        edges.all("the same, worn", Edges.fitsAll(x, 3, 1), NONE, NONE, 1, 987);
        edges.all("the last light unit", Edges.fitsAll(x, 4, 83), NONE, NONE, 1, 3);
        edges.sentence("2 (heavy): u is greater than its weight plus its greatest wear.");
        edges.all("u is that sum", Edges.fitsAll(x, 5, 105), 1, 5, 0, 0);
        edges.all("u is one greater", Edges.fitsAll(x, 5, 106), NONE, NONE, 2, 1);
        edges.all("the lightest coin, the greatest unit", Edges.fitsAll(x, 6, 999), NONE, NONE, 2, 998);
        edges.all("the lightest coin, unit 2", Edges.fitsAll(x, 6, 2), NONE, NONE, 2, 1);
        edges.all("the lightest coin, worn", Edges.fitsAll(x, 7, 10), 1, 9, 0, 0);
        edges.all("the lightest coin, worn, a unit more", Edges.fitsAll(x, 7, 11), NONE, NONE, 2, 1);
        edges.sentence("3 (between): all other cases.");
        edges.all("u is one less than the weight", Edges.fitsAll(x, 5, 99), NONE, NONE, 3, 93);
        edges.all("n * u is one too much", Edges.fitsAll(x, 5, 53), NONE, NONE, 3, 1);
        edges.all("the smallest unit that is not light", Edges.fitsAll(x, 5, 9), NONE, NONE, 3, 3);
        edges.all("the greatest light unit", Edges.fitsAll(x, 5, 8), NONE, NONE, 1, 4);
        edges.all("no wear, one below the greatest", Edges.fitsAll(x, 4, 998), NONE, NONE, 3, 997);
    }

    private static void excess() {
        edges.sentence("For the reasons 2 and 3, the excess is the smallest n * u, n from 1 to 12, that is at least"
            + " the weight, minus the weight, minus the greatest wear.");
        CommonUnits x = Check.of(Edges.coins("H10", 1005, 1000));
        edges.due("heavy, the wear taken off", x.fits(0, 200, 3), 95);
        edges.due("heavy without wear", x.fits(1, 200, 3), 100);
        edges.due("between, n is 2", x.fits(0, 60, 3), 15);
        edges.due("between without wear", x.fits(1, 60, 3), 20);
        edges.due("between, n is 12", x.fits(1, 9, 3), 8);
        edges.due("between, one below the weight", x.fits(0, 99, 3), 93);
        edges.due("it fits", x.fits(1, 25, 3), 0);
    }

    /** Every unit and some coins, reckoned here by trying all multiples. */
    private static void everyUnit() {
        edges.sentence("Tells how a coin fits a unit, or why not.");
        int[] weights = {1, 2, 11, 12, 13, 144, 145, 500, 988, 998, 999};
        int[][] heads = {{0, 0}, {1, 0}, {9, 2}, {3, 1}};
        for (int[] head : heads) {
            for (int weight : weights) {
                String text = String.format("H%d%dc%03d9", head[0], head[1], weight);
                for (int from = 1; from <= 999; from += 120) {
                    CommonUnits x = Check.of(text);
                    int wear = x.coin(0, 2);
                    for (int unit = from; unit <= 999 && unit < from + 120; unit++) {
                        edges.all(text + " by " + unit, Edges.fitsAll(x, 0, unit), reckoned(weight, wear, unit));
                    }
                }
            }
        }
    }

    private static int[] reckoned(int weight, int wear, int unit) {
        int least = MAX;
        for (int n = 12; n >= 1; n--) {
            if (n * unit >= weight) {
                least = n * unit;
            }
        }
        if (least == MAX) {
            return new int[] {NONE, NONE, 1, weight - 12 * unit};
        }
        if (least <= weight + wear) {
            return new int[] {least / unit, least - weight, 0, 0};
        }
        return new int[] {NONE, NONE, unit > weight + wear ? 2 : 3, least - weight - wear};
    }

    private static void smallestLoss() {
        edges.sentence("A coin is of the mint whose unit it fits with the smallest loss, of several the mint with the"
            + " smallest number.");
        // 50 with up to 5 of wear: 54 is 3 * 18, 51 is 3 * 17 and 51, 50 is 10 * 5 and 50.
        String[] texts = {"m018m017m005", "m018m005m017", "m005m018m017", "m017m051m018", "m018m051m017",
            "m050m005m025", "m055m054m053", "m053m054m055", "m055m055m055", "m056m056m055", "m056m055m055",
            "m049m047m050"};
        int[] wants = {2, 1, 0, 0, 1, 0, 2, 0, 0, 2, 1, 2};
        for (int k = 0; k < texts.length; k++) {
            edges.due("mint of " + texts[k], Check.of("H10c0505" + texts[k]).coin(0, 4), wants[k]);
        }
        CommonUnits x = Check.of("H10c0505m018m017m005");
        edges.due("the claim of the mint", x.judge(1, 500200), NONE);
        edges.due("the claim of another one", x.judge(1, 500100), 0);
    }

    private static void falseCoins() {
        edges.sentence("A coin that fits the unit of no mint is false (also if there are no mints).");
        CommonUnits none = Check.of("H10c0505c9999");
        edges.due("coin(0, 4) without mints", none.coin(0, 4), NONE);
        edges.due("coin(0, 5) without mints", none.coin(0, 5), 0);
        edges.due("count(6) without mints", none.count(6), 3);
        edges.due("the claim that it is false", none.judge(1, 500900), NONE);
        edges.due("the claim of a mint that is not there", none.judge(1, 500000), 0);
        CommonUnits one = Check.of("H10c0505m056");
        edges.due("coin(0, 4) by a unit one too great", one.coin(0, 4), NONE);
        one.strike(0, 55);
        edges.due("coin(0, 4) by the greatest unit that fits", one.coin(0, 4), 0);
        CommonUnits three = Check.of("H10c0505m056m004m049");
        edges.due("coin(0, 4) by three that do not fit", three.coin(0, 4), NONE);
        edges.due("count(6) by three that do not fit", three.count(6), 1);
    }

    private static void asideCoinsHaveMints() {
        edges.sentence("This is so for coins that are aside, too.");
        CommonUnits x = Check.of("H10c0505c0495m005m056");
        x.aside(0);
        x.aside(1);
        edges.due("mint of a coin aside", x.coin(0, 4), 0);
        edges.due("mints that fit it", x.coin(0, 5), 1);
        x.strike(0, 57);
        edges.due("a false coin aside", x.coin(0, 4), NONE);
        edges.due("the claim that it is false", x.judge(1, 500900), NONE);
        edges.due("its chain", x.chain(0, 0), 2);
        edges.due("mints that fit it", x.coin(0, 5), 0);
    }

    private static void newObject() {
        edges.sentence("Creates an object without coins and mints, as described above, with an empty text, no"
            + " observations and the seed 0; nothing can be undone, and all slots are empty.");
        CommonUnits x = new CommonUnits();
        int[] counts = {0, 0, 0, 1, 0, 0, 0, 0, 0};
        for (int what = 0; what <= 8; what++) {
            edges.due("count(" + what + ")", x.count(what), counts[what]);
        }
        edges.due("wipe()", x.wipe(), 0);
        edges.due("fault()", x.fault(), 0);
        edges.due("hoard()", x.hoard(), STATE);
        edges.due("unsee()", x.unsee(), 0);
        edges.due("seed(5)", x.seed(5), 0);
        edges.due("undo()", x.undo(), STATE);
        edges.due("again(0)", x.again(0), STATE);
        edges.due("again(1)", x.again(1), STATE);
        String untouched = Probe.of(new CommonUnits());
        CommonUnits first = new CommonUnits();
        CommonUnits second = Edges.rich();
        edges.holds("what is done to another object is not done to it", Probe.of(first).equals(untouched));
        edges.holds("a probe sees what is done", !Probe.of(second).equals(untouched));
    }

    private static void coin() {
        edges.sentence("Returns the property; UNKNOWN if there is no such coin; OUTSIDE if what is not 0 to 5.");
        for (int what : new int[] {-1, 6, MIN, MAX}) {
            edges.refused(Edges::rich, "coin(2, " + what + ")", x -> x.coin(2, what), OUTSIDE);
            edges.refused(Edges::rich, "coin(3, " + what + ")", x -> x.coin(3, what), UNKNOWN);
            edges.refused(Edges::rich, "coin(-1, " + what + ")", x -> x.coin(-1, what), UNKNOWN);
        }
        edges.refused(Edges::rich, "coin(3, 5)", x -> x.coin(3, 5), UNKNOWN);
        edges.refused(Edges::rich, "coin(-1, 0)", x -> x.coin(-1, 0), UNKNOWN);
        edges.sentence("0 for its weight, 1 for its years, 2 for its greatest wear, 3 for whether it is aside (1 or"
            + " 0), 4 for the mint that it is of (NONE if it is false), 5 for the number of mints whose units it fits");
        // In this state the rate is 2 by rule 2; coin 2 weighs 48, is new and aside; the units are 48 and 33.
        int[] last = {48, 0, 0, 1, 0, 1};
        int[] middle = {60, 3, 4, 0, NONE, 0};
        for (int what = 0; what <= 5; what++) {
            int asked = what;
            edges.asked(Edges::rich, "coin(2, " + what + ")", x -> x.coin(2, asked), last[what]);
            edges.asked(Edges::rich, "coin(1, " + what + ")", x -> x.coin(1, asked), middle[what]);
        }
        edges.sentence("5 for the number of mints whose units it fits");
        edges.due("none of three", Check.of("H10c0505m056m004m049").coin(0, 5), 0);
        edges.due("one of three", Check.of("H10c0505m056m055m049").coin(0, 5), 1);
        edges.due("two of three", Check.of("H10c0505m050m055m049").coin(0, 5), 2);
        edges.due("three of three", Check.of("H10c0505m050m055m005").coin(0, 5), 3);
    }

    private static void mint() {
        edges.sentence("Returns the property; UNKNOWN if there is no such mint; OUTSIDE if what is not 0 to 3.");
        for (int what : new int[] {-1, 4, MIN, MAX}) {
            edges.refused(Edges::rich, "mint(1, " + what + ")", x -> x.mint(1, what), OUTSIDE);
            edges.refused(Edges::rich, "mint(2, " + what + ")", x -> x.mint(2, what), UNKNOWN);
            edges.refused(Edges::rich, "mint(-1, " + what + ")", x -> x.mint(-1, what), UNKNOWN);
        }
        int[] first = {48, 1, 1, 0};
        for (int what = 0; what <= 3; what++) {
            int asked = what;
            edges.asked(Edges::rich, "mint(0, " + what + ")", x -> x.mint(0, asked), first[what]);
        }
        edges.sentence("1 for the set of the coins that are of it and not aside (bit k for coin k), 2 for their"
            + " number, 3 for the sum of their losses by its unit");
        edges.all("a mint without coins", Edges.mintAll(Check.of("H10m005"), 0), 5, 0, 0, 0);
        // Twelve coins of 1 that may have lost 182 each.
        CommonUnits x = Check.of("H92" + "c0019".repeat(12) + "m183m184");
        edges.all("a mint that has them all", Edges.mintAll(x, 0), 183, 4095, 12, 12 * 182);
        edges.all("a mint that has none", Edges.mintAll(x, 1), 184, 0, 0, 0);
        x.aside(11);
        edges.all("the last one aside", Edges.mintAll(x, 0), 183, 2047, 11, 11 * 182);
        x.aside(11);
        x.aside(0);
        edges.all("the first one aside", Edges.mintAll(x, 0), 183, 4094, 11, 11 * 182);
        x.strike(1, 182);
        edges.all("a nearer mint takes them", Edges.mintAll(x, 0), 183, 0, 0, 0);
        edges.all("a nearer mint", Edges.mintAll(x, 1), 182, 4094, 11, 11 * 181);
    }
}
