import java.util.function.LongSupplier;
import java.util.function.Supplier;

/** Promise by promise: ordinary inputs, the edges that the document names, and wrong inputs. */
public final class PromiseTest {
    private static final int UNKNOWN = -1, OUTSIDE = -2, STATE = -3, FULL = -4, NONE = -9;
    private static final Check CHECK = new Check("PromiseTest");
    private static int promise;

    public static void main(String[] args) {
        newObject();
        write();
        wipe();
        fault();
        hoard();
        coin();
        mint();
        clean();
        date();
        aside();
        strike();
        setRate();
        setLaw();
        undo();
        fits();
        chain();
        unit();
        ranked();
        pair();
        judgeForms();
        judgeOrder();
        see();
        unsee();
        which();
        share();
        lost();
        seed();
        drawn();
        keep();
        again();
        count();
        CHECK.end();
    }

    private static void due(String call, long got, long want) {
        CHECK.due("promise " + promise + ": " + call, got, want);
    }

    /** An error, and nothing is different then. */
    private static void error(CommonUnits x, String call, LongSupplier asked, int want) {
        String before = all(x);
        due(call, asked.getAsLong(), want);
        CHECK.holds("promise " + promise + ": " + call + " changes nothing", before.equals(all(x)));
    }

    /** All that can be asked without a change, but for the slots. */
    private static String all(CommonUnits x) {
        StringBuilder all = new StringBuilder();
        for (int what = 0; what <= 8; what++) {
            all.append(x.count(what)).append(' ');
        }
        for (int coin = 0; coin < x.count(1); coin++) {
            for (int what = 0; what <= 5; what++) {
                all.append(x.coin(coin, what)).append(' ');
            }
        }
        for (int mint = 0; mint < x.count(2); mint++) {
            all.append(x.mint(mint, 0)).append(' ');
        }
        for (int what = 0; what <= 2; what++) {
            all.append(x.which(what)).append(' ');
        }
        long seed = x.seed(0);
        x.seed(seed);
        return all.append(seed).append(' ').append(x.fault()).toString();
    }

    private static void newObject() {
        promise = 1;
        CommonUnits x = new CommonUnits();
        int[] counts = {0, 0, 0, 1, 0, 0, 0, 0, 0};
        for (int what = 0; what <= 8; what++) {
            due("count(" + what + ")", x.count(what), counts[what]);
        }
        due("fault()", x.fault(), 0);
        due("undo()", x.undo(), STATE);
        due("again(0)", x.again(0), STATE);
        due("again(1)", x.again(1), STATE);
        due("which(0)", x.which(0), 999);
        due("seed(3)", x.seed(3), 0);
        CommonUnits other = new CommonUnits();
        due("seed(4) of another", other.seed(4), 0);
        due("seed(3) of the first", x.seed(3), 3);
        due("UNKNOWN", CommonUnits.UNKNOWN, -1);
        due("OUTSIDE", CommonUnits.OUTSIDE, -2);
        due("STATE", CommonUnits.STATE, -3);
        due("FULL", CommonUnits.FULL, -4);
        due("NONE", CommonUnits.NONE, -9);
    }

    private static void write() {
        promise = 2;
        CommonUnits x = new CommonUnits();
        due("write(0)", x.write(0), 1);
        due("write(255)", x.write(255), 2);
        error(x, "write(-1)", () -> x.write(-1), OUTSIDE);
        error(x, "write(256)", () -> x.write(256), OUTSIDE);
        error(x, "write(MIN)", () -> x.write(Integer.MIN_VALUE), OUTSIDE);
        error(x, "write(256 + H)", () -> x.write(256 + 'H'), OUTSIDE);
        for (int length = 3; length <= 130; length++) {
            due("write to " + length, x.write('H'), length);
        }
        error(x, "write when full", () -> x.write('H'), FULL);
        error(x, "write(256) when full", () -> x.write(256), OUTSIDE);
        due("count(0)", x.count(0), 130);
        due("wipe()", x.wipe(), 130);
        due("write again", x.write('H'), 1);
        due("fault() tells that it is an H", x.fault(), 1);
    }

    private static void wipe() {
        promise = 3;
        CommonUnits x = Check.of("H22c0127m005");
        x.clean(0, 13);
        x.keep(0);
        due("wipe()", x.wipe(), 12);
        due("wipe() again", x.wipe(), 0);
        due("count(0)", x.count(0), 0);
        due("the coin stays", x.coin(0, 0), 13);
        due("the act stays", x.count(7), 1);
        due("the slot stays", x.again(0), 1);
        due("fault()", x.fault(), 0);
    }

    private static void faultOf(String text, int want) {
        CommonUnits x = new CommonUnits();
        Check.type(x, text);
        due("fault() of " + text, x.fault(), want);
        due("fault() of " + text + " once more", x.fault(), want);
        due("length", x.count(0), text.length());
        due("no coin from it", x.count(1), 0);
        due("hoard() of " + text, want == NONE ? 0 : x.hoard(), want == NONE ? 0 : STATE);
    }

    private static void fault() {
        promise = 4;
        faultOf("", 0);
        faultOf("h10", 0);
        faultOf(" H10", 0);
        faultOf("H", 1);
        faultOf("HH", 1);
        faultOf("H/", 1);
        faultOf("H:", 1);
        faultOf("H9", 2);
        faultOf("H93", 2);
        faultOf("H9/", 2);
        faultOf("H9x", 2);
        faultOf("H00", NONE);
        faultOf("H92", NONE);
        faultOf("H92 ", 3);
        faultOf("H92C", 3);
        faultOf("H92H", 3);
        faultOf("H921", 3);
        faultOf("H92c", 4);
        faultOf("H92cx", 4);
        faultOf("H92c0", 5);
        faultOf("H92c0c", 5);
        faultOf("H92c00", 6);
        faultOf("H92c000", 6);
        faultOf("H92c0000", 6);
        faultOf("H92c00x", 6);
        faultOf("H92c001", 7);
        faultOf("H92c001c", 7);
        faultOf("H92c0010", NONE);
        faultOf("H92c9999", NONE);
        faultOf("H92c00100", 8);
        faultOf("H92c0100c", 9);
        faultOf("H92m", 4);
        faultOf("H92m00", 6);
        faultOf("H92m000", 6);
        faultOf("H92m100", NONE);
        faultOf("H92m010", NONE);
        faultOf("H92m1005", 7);
        faultOf("H92m100c1005m001", NONE);
        faultOf("H92m100c1005m0x1", 14);
        String coins = "c0010".repeat(12);
        faultOf("H92" + coins, NONE);
        faultOf("H92" + coins + "c", 63);
        faultOf("H92" + coins + "c0010", 63);
        faultOf("H92" + coins + "m001m002m003", NONE);
        faultOf("H92" + coins + "m001m002m003m", 75);
        faultOf("H92m001m002m003" + coins, NONE);
        faultOf("H92m001m002m003m004", 15);
        faultOf("H92" + coins + "m001m002m003c", 75);
        faultOf("H92" + coins + "m001m002m003" + "x".repeat(55), 75);
        faultOf("H" + (char) 178, 1);
    }

    private static void hoard() {
        promise = 5;
        CommonUnits x = Check.of("H92c0127m005c9990m999");
        due("rate", x.count(3), 9);
        due("wear rule", x.count(4), 2);
        due("coins", x.count(1), 2);
        due("mints", x.count(2), 2);
        due("weight 0", x.coin(0, 0), 12);
        due("years 0", x.coin(0, 1), 7);
        due("weight 1", x.coin(1, 0), 999);
        due("years 1", x.coin(1, 1), 0);
        due("unit 0", x.mint(0, 0), 5);
        due("unit 1", x.mint(1, 0), 999);
        x.aside(0);
        x.keep(0);
        x.keep(1);
        x.see(1, 1);
        x.seed(77);
        Check.type(x, "H13");
        error(x, "hoard() of H13", x::hoard, STATE);
        due("the slot is still there", x.again(0), 2);
        due("aside", x.aside(1), 1);
        Check.type(x, "H01c0309");
        due("hoard()", x.hoard(), 1);
        due("text stays", x.count(0), 8);
        due("mints", x.count(2), 0);
        due("rate", x.count(3), 0);
        due("wear rule", x.count(4), 1);
        due("none aside", x.count(5), 0);
        due("no act", x.count(7), 0);
        due("undo()", x.undo(), STATE);
        due("again(0)", x.again(0), STATE);
        due("again(1)", x.again(1), STATE);
        due("the observation stays", x.count(8), 1);
        due("the seed stays", x.seed(0), 77);
        due("no second coin", x.coin(1, 0), UNKNOWN);
        due("hoard() again", x.hoard(), 1);
        x.judge(1, 300000);
        due("hoard() after judge()", x.hoard(), 1);
        due("none aside", x.count(5), 0);
        Check.type(x, "H10");
        due("hoard() of none", x.hoard(), 0);
        due("coins", x.count(1), 0);
        CommonUnits most = Check.of("H10" + "c1234".repeat(12) + "m001m002m003");
        due("twelve coins", most.count(1), 12);
        due("the last one", most.coin(11, 0), 123);
        due("three mints", most.mint(2, 0), 3);
    }

    private static void coin() {
        promise = 6;
        CommonUnits x = Check.of("H30c1000c1001c1002c1003c1004c1005c1006c1007c1008c1009");
        int[][] wears = {{0, 3, 6, 9, 12, 15, 18, 21, 24, 27}, {0, 3, 6, 9, 12, 13, 15, 16, 18, 19},
            {0, 0, 3, 6, 12, 18, 27, 36, 48, 60}};
        for (int law = 0; law <= 2; law++) {
            x.setLaw(law);
            for (int years = 0; years <= 9; years++) {
                due("wear of " + years + " by rule " + law, x.coin(years, 2), wears[law][years]);
            }
        }
        x.setRate(9);
        due("greatest wear of all", x.coin(9, 2), 182);
        x.setRate(0);
        due("no wear", x.coin(9, 2), 0);
        due("years", x.coin(9, 1), 9);
        due("weight", x.coin(9, 0), 100);
        due("mint without mints", x.coin(9, 4), NONE);
        due("mints that fit, without mints", x.coin(9, 5), 0);
        // 50 with a wear of up to 5: 55 = 11 * 5 is not needed, 50 = 10 * 5; 54 = 3 * 18; 51 = 3 * 17.
        CommonUnits y = Check.of("H10c0505m018m017m005");
        due("smallest loss", y.coin(0, 4), 2);
        due("mints that fit", y.coin(0, 5), 3);
        y.strike(2, 900);
        due("smallest loss of two", y.coin(0, 4), 1);
        due("mints that fit", y.coin(0, 5), 2);
        y.strike(0, 51);
        due("of equal losses the first mint", y.coin(0, 4), 0);
        due("not aside", y.coin(0, 3), 0);
        y.aside(0);
        due("aside", y.coin(0, 3), 1);
        due("mint of a coin aside", y.coin(0, 4), 0);
        y.strike(0, 900);
        y.strike(1, 900);
        due("false", y.coin(0, 4), NONE);
        due("mints that fit", y.coin(0, 5), 0);
        error(y, "coin(1, 0)", () -> y.coin(1, 0), UNKNOWN);
        error(y, "coin(-1, 0)", () -> y.coin(-1, 0), UNKNOWN);
        error(y, "coin(1, 9)", () -> y.coin(1, 9), UNKNOWN);
        error(y, "coin(0, 6)", () -> y.coin(0, 6), OUTSIDE);
        error(y, "coin(0, -1)", () -> y.coin(0, -1), OUTSIDE);
        due("coin(MAX, 0)", y.coin(Integer.MAX_VALUE, 0), UNKNOWN);
    }

    private static void mint() {
        promise = 7;
        // Coin 0: 48 = 2 * 24. Coin 1: 47 + 1. Coin 2: 60 = 2 * 30. Coin 3: 119 + 1 = 5 * 24 = 4 * 30. Coin 4 false.
        CommonUnits x = Check.of("H10m024c0480m030c0471c0600c1191c0010");
        due("unit", x.mint(0, 0), 24);
        due("unit", x.mint(1, 0), 30);
        due("set", x.mint(0, 1), 1 + 2 + 8);
        due("number", x.mint(0, 2), 3);
        due("losses", x.mint(0, 3), 2);
        due("set", x.mint(1, 1), 4);
        due("losses", x.mint(1, 3), 0);
        x.aside(1);
        due("set without a coin aside", x.mint(0, 1), 1 + 8);
        due("number", x.mint(0, 2), 2);
        due("losses", x.mint(0, 3), 1);
        error(x, "mint(2, 0)", () -> x.mint(2, 0), UNKNOWN);
        error(x, "mint(-1, 0)", () -> x.mint(-1, 0), UNKNOWN);
        error(x, "mint(2, 4)", () -> x.mint(2, 4), UNKNOWN);
        error(x, "mint(0, 4)", () -> x.mint(0, 4), OUTSIDE);
        error(x, "mint(0, -1)", () -> x.mint(0, -1), OUTSIDE);
        due("mint(NONE, 1)", x.mint(NONE, 1), UNKNOWN);
    }

    private static void clean() {
        promise = 8;
        CommonUnits x = Check.of("H10c0480c0600");
        due("clean(1, 999)", x.clean(1, 999), 60);
        due("clean(1, 1)", x.clean(1, 1), 999);
        due("clean(1, 1) again", x.clean(1, 1), 1);
        due("each is an act", x.count(7), 3);
        due("weight", x.coin(1, 0), 1);
        due("the other one", x.coin(0, 0), 48);
        error(x, "clean(2, 5)", () -> x.clean(2, 5), UNKNOWN);
        error(x, "clean(-1, 5)", () -> x.clean(-1, 5), UNKNOWN);
        error(x, "clean(2, 0)", () -> x.clean(2, 0), UNKNOWN);
        error(x, "clean(0, 0)", () -> x.clean(0, 0), OUTSIDE);
        error(x, "clean(0, 1000)", () -> x.clean(0, 1000), OUTSIDE);
        due("undo()", x.undo(), 2);
        due("undo()", x.undo(), 1);
        due("weight", x.coin(1, 0), 999);
        due("undo()", x.undo(), 0);
        due("weight", x.coin(1, 0), 60);
    }

    private static void date() {
        promise = 9;
        CommonUnits x = Check.of("H10c0483c0604");
        due("date(0, 9)", x.date(0, 9), 3);
        due("date(0, 0)", x.date(0, 0), 9);
        due("date(1, 4)", x.date(1, 4), 4);
        due("each is an act", x.count(7), 3);
        due("years", x.coin(0, 1), 0);
        error(x, "date(2, 5)", () -> x.date(2, 5), UNKNOWN);
        error(x, "date(-1, 10)", () -> x.date(-1, 10), UNKNOWN);
        error(x, "date(0, 10)", () -> x.date(0, 10), OUTSIDE);
        error(x, "date(0, -1)", () -> x.date(0, -1), OUTSIDE);
        due("undo()", x.undo(), 2);
        due("undo()", x.undo(), 1);
        due("years", x.coin(0, 1), 9);
    }

    private static void aside() {
        promise = 10;
        CommonUnits x = Check.of("H10c0483c0604c0010");
        due("aside(0)", x.aside(0), 1);
        due("set", x.count(5), 1);
        x.undo();
        due("aside(1)", x.aside(1), 1);
        due("aside(2)", x.aside(2), 1);
        due("set", x.count(5), 6);
        due("aside(1)", x.aside(1), 0);
        due("set", x.count(5), 4);
        due("acts", x.count(7), 3);
        error(x, "aside(3)", () -> x.aside(3), UNKNOWN);
        error(x, "aside(-1)", () -> x.aside(-1), UNKNOWN);
        due("undo()", x.undo(), 2);
        due("set", x.count(5), 6);
        due("undo()", x.undo(), 1);
        due("set", x.count(5), 2);
        due("undo()", x.undo(), 0);
        due("set", x.count(5), 0);
    }

    private static void strike() {
        promise = 11;
        CommonUnits x = Check.of("H10m010m020");
        due("strike(1, 999)", x.strike(1, 999), 20);
        due("strike(1, 1)", x.strike(1, 1), 999);
        due("strike(0, 10)", x.strike(0, 10), 10);
        due("acts", x.count(7), 3);
        due("unit", x.mint(1, 0), 1);
        due("unit", x.mint(0, 0), 10);
        error(x, "strike(2, 5)", () -> x.strike(2, 5), UNKNOWN);
        error(x, "strike(-1, 5)", () -> x.strike(-1, 5), UNKNOWN);
        error(x, "strike(2, 0)", () -> x.strike(2, 0), UNKNOWN);
        error(x, "strike(0, 0)", () -> x.strike(0, 0), OUTSIDE);
        error(x, "strike(0, 1000)", () -> x.strike(0, 1000), OUTSIDE);
        x.undo();
        x.undo();
        due("unit", x.mint(1, 0), 999);
    }

    private static void setRate() {
        promise = 12;
        CommonUnits x = new CommonUnits();
        due("setRate(9)", x.setRate(9), 1);
        due("setRate(0)", x.setRate(0), 9);
        due("setRate(0)", x.setRate(0), 0);
        due("acts", x.count(7), 3);
        error(x, "setRate(10)", () -> x.setRate(10), OUTSIDE);
        error(x, "setRate(-1)", () -> x.setRate(-1), OUTSIDE);
        x.undo();
        due("undo()", x.undo(), 1);
        due("rate", x.count(3), 9);
        due("undo()", x.undo(), 0);
        due("rate", x.count(3), 1);
    }

    private static void setLaw() {
        promise = 13;
        CommonUnits x = new CommonUnits();
        due("setLaw(2)", x.setLaw(2), 0);
        due("setLaw(1)", x.setLaw(1), 2);
        due("setLaw(1)", x.setLaw(1), 1);
        due("acts", x.count(7), 3);
        error(x, "setLaw(3)", () -> x.setLaw(3), OUTSIDE);
        error(x, "setLaw(-1)", () -> x.setLaw(-1), OUTSIDE);
        x.undo();
        due("undo()", x.undo(), 1);
        due("wear rule", x.count(4), 2);
        due("undo()", x.undo(), 0);
        due("wear rule", x.count(4), 0);
    }

    private static void undo() {
        promise = 14;
        CommonUnits x = Check.of("H10c0500m010");
        error(x, "undo() of nothing", x::undo, STATE);
        for (int k = 1; k <= 20; k++) {
            x.clean(0, 100 + k);
        }
        due("acts", x.count(7), 14);
        for (int k = 1; k <= 14; k++) {
            due("undo()", x.undo(), 14 - k);
            due("weight", x.coin(0, 0), 120 - k);
        }
        error(x, "undo() too often", x::undo, STATE);
        due("weight", x.coin(0, 0), 106);
        x.clean(0, 7);
        x.undo();
        x.date(0, 3);
        x.strike(0, 11);
        x.setRate(5);
        x.setLaw(2);
        x.aside(0);
        due("acts", x.count(7), 5);
        due("undo aside", x.undo(), 4);
        due("aside", x.count(5), 0);
        due("rule", x.count(4), 2);
        due("undo rule", x.undo(), 3);
        due("rule", x.count(4), 0);
        x.setRate(6);
        due("acts", x.count(7), 4);
        due("undo the newer rate", x.undo(), 3);
        due("rate", x.count(3), 5);
        due("undo rate", x.undo(), 2);
        due("rate", x.count(3), 1);
        due("undo unit", x.undo(), 1);
        due("unit", x.mint(0, 0), 10);
        due("undo years", x.undo(), 0);
        due("years", x.coin(0, 1), 0);
        due("weight stays", x.coin(0, 0), 106);
        // Fourteen acts, half undone, and more acts than there was room for.
        for (int k = 0; k < 14; k++) {
            x.clean(0, 200 + k);
        }
        for (int k = 0; k < 7; k++) {
            x.undo();
        }
        for (int k = 0; k < 9; k++) {
            x.clean(0, 300 + k);
        }
        due("acts", x.count(7), 14);
        for (int k = 0; k < 14; k++) {
            x.undo();
        }
        due("weight before the oldest that is left", x.coin(0, 0), 201);
        x.setRate(2);
        x.see(0, 1);
        x.seed(5);
        due("undo()", x.undo(), 0);
        due("observations are not undone", x.count(8), 1);
        due("the seed is not undone", x.seed(0), 5);
    }

    private static void fitsAll(CommonUnits x, int coin, int unit, int[] wants) {
        for (int what = 0; what <= 3; what++) {
            due("fits(" + coin + "," + unit + "," + what + ")", x.fits(coin, unit, what), wants[what]);
        }
    }

    private static void fits() {
        promise = 15;
        // 100 with a wear of up to 5.
        CommonUnits x = Check.of("H10c1005c0019c9990c9999");
        fitsAll(x, 0, 100, new int[] {1, 0, 0, 0});
        fitsAll(x, 0, 105, new int[] {1, 5, 0, 0});
        fitsAll(x, 0, 106, new int[] {NONE, NONE, 2, 1});
        fitsAll(x, 0, 999, new int[] {NONE, NONE, 2, 894});
        fitsAll(x, 0, 99, new int[] {NONE, NONE, 3, 93});
        fitsAll(x, 0, 53, new int[] {NONE, NONE, 3, 1});
        fitsAll(x, 0, 52, new int[] {2, 4, 0, 0});
        fitsAll(x, 0, 9, new int[] {NONE, NONE, 3, 3});
        fitsAll(x, 0, 8, new int[] {NONE, NONE, 1, 4});
        fitsAll(x, 0, 1, new int[] {NONE, NONE, 1, 88});
        // A weight of 1: every unit up to 10 fits by its smallest multiple.
        fitsAll(x, 1, 1, new int[] {1, 0, 0, 0});
        fitsAll(x, 1, 10, new int[] {1, 9, 0, 0});
        fitsAll(x, 1, 11, new int[] {NONE, NONE, 2, 1});
        fitsAll(x, 2, 999, new int[] {1, 0, 0, 0});
        fitsAll(x, 2, 84, new int[] {NONE, NONE, 3, 9});
        fitsAll(x, 3, 84, new int[] {12, 9, 0, 0});
        fitsAll(x, 2, 83, new int[] {NONE, NONE, 1, 3});
        fitsAll(x, 3, 83, new int[] {NONE, NONE, 1, 3});
        x.aside(0);
        fitsAll(x, 0, 52, new int[] {2, 4, 0, 0});
        error(x, "fits(4, 1, 0)", () -> x.fits(4, 1, 0), UNKNOWN);
        error(x, "fits(-1, 0, 0)", () -> x.fits(-1, 0, 0), UNKNOWN);
        error(x, "fits(0, 0, 0)", () -> x.fits(0, 0, 0), OUTSIDE);
        error(x, "fits(0, 1000, 0)", () -> x.fits(0, 1000, 0), OUTSIDE);
        error(x, "fits(0, -5, 2)", () -> x.fits(0, -5, 2), OUTSIDE);
        error(x, "fits(0, 1, 4)", () -> x.fits(0, 1, 4), OUTSIDE);
        error(x, "fits(0, 1, -1)", () -> x.fits(0, 1, -1), OUTSIDE);
    }

    private static void chain() {
        promise = 16;
        CommonUnits x = Check.of("H10c1005m008m106m099c1000");
        due("chain(0, 0)", x.chain(0, 0), 3);
        due("chain(0, 1)", x.chain(0, 1), 2);
        due("chain(0, 2)", x.chain(0, 2), 1);
        due("chain(0, 3)", x.chain(0, 3), NONE);
        due("chain(0, MAX)", x.chain(0, Integer.MAX_VALUE), NONE);
        x.aside(0);
        due("chain of a coin aside", x.chain(0, 0), 3);
        x.strike(0, 50);
        due("chain of a coin that is not false", x.chain(0, 0), NONE);
        due("chain of a coin that is not false", x.chain(0, 2), NONE);
        error(x, "chain(2, 0)", () -> x.chain(2, 0), UNKNOWN);
        error(x, "chain(-1, -1)", () -> x.chain(-1, -1), UNKNOWN);
        error(x, "chain(0, -1) of a coin that is not false", () -> x.chain(0, -1), OUTSIDE);
        error(x, "chain(1, MIN)", () -> x.chain(1, Integer.MIN_VALUE), OUTSIDE);
        due("chain without mints", Check.of("H10c1005").chain(0, 0), NONE);
    }

    private static void unit() {
        promise = 17;
        // 11 with a wear of up to 2; 24 without wear.
        CommonUnits x = Check.of("H10c0112c0240");
        int[][] wants = {{12, 2, 3, 1, 0}, {6, 2, 3, 1, 1}, {4, 2, 3, 1, 2}, {3, 2, 3, 1, 3}, {2, 2, 3, 1, 4},
            {24, 1, 2, 0, 5}, {11, 1, 1, 0, 6}, {8, 1, 2, 0, 7}, {1, 1, 1, 0, 8}, {13, 1, 1, 2, 9},
            {999, 0, 0, 0, 10}, {5, 0, 0, 0, 998}};
        for (int[] want : wants) {
            for (int what = 0; what <= 3; what++) {
                due("unit(" + want[0] + "," + what + ")", x.unit(want[0], what), want[what + 1]);
            }
        }
        x.aside(0);
        due("unit(12, 0) with a coin aside", x.unit(12, 0), 1);
        due("unit(12, 1) with a coin aside", x.unit(12, 1), 2);
        due("unit(12, 2) with a coin aside", x.unit(12, 2), 0);
        due("unit(24, 3) with a coin aside", x.unit(24, 3), 0);
        due("unit(12, 3) with a coin aside", x.unit(12, 3), 1);
        error(x, "unit(0, 0)", () -> x.unit(0, 0), OUTSIDE);
        error(x, "unit(1000, 3)", () -> x.unit(1000, 3), OUTSIDE);
        error(x, "unit(MIN, 3)", () -> x.unit(Integer.MIN_VALUE, 3), OUTSIDE);
        error(x, "unit(1, 4)", () -> x.unit(1, 4), OUTSIDE);
        error(x, "unit(1, -1)", () -> x.unit(1, -1), OUTSIDE);
    }

    private static void ranked() {
        promise = 18;
        CommonUnits x = new CommonUnits();
        for (int rank = 0; rank <= 998; rank += 499) {
            due("ranked(" + rank + ") without coins", x.ranked(rank), 999 - rank);
        }
        CommonUnits y = Check.of("H10c0112");
        int[] first = {11, 1, 12, 6, 4, 3, 2, 13, 999, 998};
        for (int rank = 0; rank < first.length; rank++) {
            due("ranked(" + rank + ")", y.ranked(rank), first[rank]);
        }
        due("ranked(998)", y.ranked(998), 5);
        for (int rank = 0; rank <= 998; rank += 37) {
            due("rank of the unit of rank " + rank, y.unit(y.ranked(rank), 3), rank);
        }
        y.date(0, 0);
        due("ranked(1) by a change", y.ranked(1), 1);
        due("ranked(2) by a change", y.ranked(2), 999);
        y.clean(0, 12);
        due("ranked(0) by a change", y.ranked(0), 12);
        y.aside(0);
        due("ranked(0) with all aside", y.ranked(0), 999);
        y.undo();
        due("ranked(0) undone", y.ranked(0), 12);
        y.setRate(0);
        y.keep(0);
        y.clean(0, 17);
        due("ranked(0) by a change", y.ranked(0), 17);
        y.again(0);
        due("ranked(0) again", y.ranked(0), 12);
        Check.type(y, "H00c0190");
        y.hoard();
        due("ranked(0) of another hoard", y.ranked(0), 19);
        error(y, "ranked(-1)", () -> y.ranked(-1), UNKNOWN);
        error(y, "ranked(999)", () -> y.ranked(999), UNKNOWN);
    }

    private static void pairAll(CommonUnits x, int[] wants) {
        for (int what = 0; what <= 3; what++) {
            due("pair(" + what + ")", x.pair(what), wants[what]);
        }
    }

    private static void pair() {
        promise = 19;
        pairAll(new CommonUnits(), new int[] {1, 2, 0, 0});
        pairAll(Check.of("H00c3000"), new int[] {1, 25, 1, 0});
        CommonUnits x = Check.of("H00c0120c0350");
        pairAll(x, new int[] {1, 5, 3, 0});
        x.aside(0);
        pairAll(x, new int[] {1, 5, 2, 0});
        x.aside(1);
        pairAll(x, new int[] {1, 2, 0, 0});
        x.undo();
        x.undo();
        pairAll(x, new int[] {1, 5, 3, 0});
        // Three primes: each fits its own weight alone, so a third one stays without a unit.
        pairAll(Check.of("H00c9970c9910c9830"), new int[] {983, 991, 6, 0});
        // 11 fits 13 with a loss of 2 and 1 with none: the smaller one counts.
        pairAll(Check.of("H10c0112c0130"), new int[] {1, 13, 3, 0});
        // Three coins by two units: 991 and 997 fit 997 if the wear is 6, and 983 fits itself.
        CommonUnits y = Check.of("H10c9970c9916c9830");
        pairAll(y, new int[] {983, 997, 7, 6});
        y.setRate(0);
        pairAll(y, new int[] {983, 991, 6, 0});
        y.undo();
        pairAll(y, new int[] {983, 997, 7, 6});
        y.judge(1, 303000);
        pairAll(y, new int[] {983, 997, 7, 6});
        error(y, "pair(4)", () -> y.pair(4), OUTSIDE);
        error(y, "pair(-1)", () -> y.pair(-1), OUTSIDE);
    }

    /** On an object of its own: what it tells before and after is told by many calls. */
    private static void judged(Supplier<CommonUnits> state, int n, long row, int want) {
        CommonUnits x = state.get();
        String before = all(x);
        due("judge(" + n + "," + row + ")", x.judge(n, row), want);
        CHECK.holds("judge changes nothing", before.equals(all(x)));
    }

    /** Eleven coins of 100 and 5 years, mints 50 and 33. */
    private static CommonUnits elevenCoins() {
        CommonUnits x = Check.of("H10" + "c1005".repeat(11) + "m050m033");
        x.see(3, 1);
        x.aside(2);
        return x;
    }

    private static void judgeForms() {
        promise = 20;
        Supplier<CommonUnits> x = PromiseTest::elevenCoins;
        judged(x, 1, 110001, NONE);
        judged(x, 1, 100999, NONE);
        judged(x, 1, 100000, 0);
        judged(x, 1, 111001, 0);
        judged(x, 1, 210900, NONE);
        judged(x, 1, 210000, NONE);
        judged(x, 1, 210910, 0);
        judged(x, 1, 210901, 0);
        judged(x, 1, 211900, 0);
        judged(x, 1, 310000, NONE);
        judged(x, 1, 302000, NONE);
        judged(x, 1, 311000, 0);
        judged(x, 1, 310001, 0);
        judged(x, 1, 310100, 0);
        judged(x, 1, 400001, NONE);
        judged(x, 1, 410999, NONE);
        judged(x, 1, 420001, 0);
        judged(x, 1, 410000, 0);
        judged(x, 1, 411050, 0);
        judged(x, 1, 500000, NONE);
        judged(x, 1, 510000, NONE);
        judged(x, 1, 500100, 0);
        judged(x, 1, 500200, 0);
        judged(x, 1, 500900, 0);
        judged(x, 1, 511900, 0);
        judged(x, 1, 500001, 0);
        judged(x, 1, 500010, 0);
        judged(x, 1, 600100, NONE);
        judged(x, 1, 600099, 0);
        judged(x, 1, 600000, 0);
        judged(x, 1, 610100, 0);
        judged(x, 1, 601100, 0);
        judged(x, 1, 700000, NONE);
        judged(x, 1, 702000, NONE);
        judged(x, 1, 703000, 0);
        judged(x, 1, 710000, 0);
        judged(x, 1, 701001, 0);
        judged(x, 1, 701010, 0);
        judged(x, 1, 701100, 0);
        judged(x, 1, 800000, 0);
        judged(x, 1, 900000, 0);
        judged(x, 1, 0, 0);
        judged(x, 1, 99999, 0);
    }

    private static void judgeOrder() {
        promise = 20;
        Supplier<CommonUnits> two = () -> Check.of("H10c1005c0600m050m033");
        judged(two, 2, 100103500900L, NONE);
        judged(two, 2, 100103500000L, 1);
        judged(two, 3, 500000400033500900L, NONE);
        judged(two, 3, 500000410034500000L, NONE);
        judged(two, 3, 410100500000410102L, NONE);
        judged(two, 3, 410100400102500100L, NONE);
        judged(two, 3, 301000600100301000L, NONE);
        judged(two, 3, 300000600060300000L, NONE);
        judged(two, 3, 300000600060600060L, NONE);
        judged(two, 3, 300000300000600060L, 2);
        judged(two, 2, 200000500000L, NONE);
        judged(two, 3, 200000100098500900L, NONE);
        judged(two, 2, 100098500900L, 1);
        judged(two, 3, 702000100093500100L, NONE);
        judged(two, 3, 700000100093500100L, 2);
        judged(two, 3, 200600100093500100L, NONE);
        judged(two, 3, 200600100093500900L, 2);
        judged(two, 3, 200500100093500900L, NONE);
        judged(two, 3, 201100101032501100L, NONE);
        judged(two, 2, 101032501100L, 1);
        judged(two, 2, 500000L, 0);
        judged(two, 3, 500900500900500900L, 0);
        judged(two, 3, 500000500900500900L, 1);
        judged(two, 3, 500000500000800000L, 2);
        judged(two, 3, 999999999999999999L, 0);
        CommonUnits x = two.get();
        due("a false claim", x.judge(1, 500900), 0);
        x.clean(0, 7);
        due("judge() after a change", x.judge(1, 500900), NONE);
        x.aside(0);
        due("judge() after another", x.judge(1, 600060), NONE);
        due("the smallest unit has rank 0", Check.of("H00c0010").judge(1, 600001), NONE);
        error(x, "judge(0, 0)", () -> x.judge(0, 0), OUTSIDE);
        error(x, "judge(4, 0)", () -> x.judge(4, 0), OUTSIDE);
        error(x, "judge(-1, 0)", () -> x.judge(-1, 0), OUTSIDE);
        error(x, "judge(1, -1)", () -> x.judge(1, -1), OUTSIDE);
        error(x, "judge(1, 1000000)", () -> x.judge(1, 1000000), OUTSIDE);
        error(x, "judge(2, 10^12)", () -> x.judge(2, 1000000000000L), OUTSIDE);
        error(x, "judge(3, 10^18)", () -> x.judge(3, 1000000000000000000L), OUTSIDE);
        error(x, "judge(3, MAX)", () -> x.judge(3, Long.MAX_VALUE), OUTSIDE);
        error(x, "judge(3, MIN)", () -> x.judge(3, Long.MIN_VALUE), OUTSIDE);
    }

    private static void see() {
        promise = 21;
        CommonUnits x = Check.of("H10c1005c0600");
        due("see(0, 1)", x.see(0, 1), 1);
        due("see(1, 0)", x.see(1, 0), 2);
        error(x, "see(2, 1)", () -> x.see(2, 1), UNKNOWN);
        error(x, "see(-1, 2)", () -> x.see(-1, 2), UNKNOWN);
        error(x, "see(0, 2)", () -> x.see(0, 2), OUTSIDE);
        error(x, "see(0, -1)", () -> x.see(0, -1), OUTSIDE);
        for (int k = 3; k <= 6; k++) {
            due("see to " + k, x.see(0, 1), k);
        }
        error(x, "see when full", () -> x.see(0, 1), FULL);
        error(x, "see(2, 1) when full", () -> x.see(2, 1), UNKNOWN);
        error(x, "see(0, 2) when full", () -> x.see(0, 2), OUTSIDE);
        due("no act", x.count(7), 0);
    }

    private static void unsee() {
        promise = 22;
        CommonUnits x = Check.of("H10c1005c0600");
        due("unsee()", x.unsee(), 0);
        x.see(0, 1);
        x.see(0, 0);
        due("which(0)", x.which(0), 0);
        due("unsee()", x.unsee(), 2);
        due("which(0)", x.which(0), 999);
        due("count(8)", x.count(8), 0);
        due("see(1, 1)", x.see(1, 1), 1);
    }

    private static void whichAll(CommonUnits x, int number, int smallest, int greatest) {
        due("which(0)", x.which(0), number);
        due("which(1)", x.which(1), smallest);
        due("which(2)", x.which(2), greatest);
    }

    private static void which() {
        promise = 23;
        CommonUnits x = Check.of("H00c0120c0180");
        whichAll(x, 999, 1, 999);
        x.see(0, 1);
        whichAll(x, 6, 1, 12);
        x.see(1, 1);
        whichAll(x, 3, 2, 6);
        x.aside(0);
        whichAll(x, 3, 2, 6);
        x.unsee();
        x.see(0, 1);
        x.see(1, 0);
        whichAll(x, 3, 1, 12);
        x.clean(0, 18);
        whichAll(x, 0, NONE, NONE);
        x.clean(0, 990);
        whichAll(x, 8, 90, 990);
        Check.type(x, "H00c0120");
        x.hoard();
        whichAll(x, 6, 1, 12);
        x.unsee();
        x.see(0, 0);
        whichAll(x, 993, 5, 999);
        Check.type(x, "H00");
        x.hoard();
        whichAll(x, 999, 1, 999);
        Check.type(x, "H00c0120");
        x.hoard();
        x.see(0, 1);
        whichAll(x, 0, NONE, NONE);
        error(x, "which(3)", () -> x.which(3), OUTSIDE);
        error(x, "which(-1)", () -> x.which(-1), OUTSIDE);
    }

    private static void shareOf(CommonUnits x, int coin, int over, int under) {
        due("share(" + coin + ", true)", x.share(coin, true), over);
        due("share(" + coin + ", false)", x.share(coin, false), under);
    }

    private static void share() {
        promise = 24;
        shareOf(Check.of("H00c0120"), 0, 1, 1);
        CommonUnits two = Check.of("H00c0120c0350");
        shareOf(two, 0, 1, 2);
        shareOf(two, 1, 1, 2);
        // 12 and 24 have a unit in common, 35 has none with either.
        CommonUnits x = Check.of("H00c0120c0240c0350");
        shareOf(x, 0, 5, 6);
        shareOf(x, 1, 5, 6);
        shareOf(x, 2, 1, 3);
        x.aside(0);
        error(x, "share of a coin aside", () -> x.share(0, true), STATE);
        error(x, "share of a coin aside", () -> x.share(0, false), STATE);
        shareOf(x, 1, 1, 2);
        shareOf(x, 2, 1, 2);
        x.undo();
        shareOf(x, 0, 5, 6);
        error(x, "share(3)", () -> x.share(3, true), UNKNOWN);
        error(x, "share(-1)", () -> x.share(-1, false), UNKNOWN);
        CommonUnits nine = Check.of("H00" + "c0120".repeat(8) + "c0350");
        error(nine, "share of one of nine", () -> nine.share(0, true), STATE);
        error(nine, "share of one of nine", () -> nine.share(0, false), STATE);
        error(nine, "share(9) of nine", () -> nine.share(9, true), UNKNOWN);
        nine.aside(8);
        shareOf(nine, 7, 1, 1);
        nine.aside(0);
        nine.aside(8);
        // Seven that go together and one that does not: it adds one coin only if it comes first.
        shareOf(nine, 8, 1, 8);
        shareOf(nine, 4, 55, 56);
    }

    private static void lostIs(CommonUnits x, int tenths, int over, int under) {
        due("lost(" + tenths + ", true)", x.lost(tenths, true), over);
        due("lost(" + tenths + ", false)", x.lost(tenths, false), under);
    }

    private static void lost() {
        promise = 25;
        lostIs(new CommonUnits(), 0, 1, 1);
        lostIs(new CommonUnits(), 10, 1, 1);
        CommonUnits x = Check.of("H00c0120c0240c0350");
        lostIs(x, 0, 0, 1);
        lostIs(x, 5, 5, 8);
        lostIs(x, 3, 363, 1000);
        lostIs(x, 10, 1, 1);
        x.aside(2);
        lostIs(x, 3, 1, 1);
        x.aside(0);
        x.aside(2);
        lostIs(x, 0, 0, 1);
        lostIs(x, 1, 19, 100);
        error(x, "lost(11)", () -> x.lost(11, true), OUTSIDE);
        error(x, "lost(-1)", () -> x.lost(-1, false), OUTSIDE);
        CommonUnits nine = Check.of("H00" + "c0120".repeat(8) + "c0350");
        error(nine, "lost(3) of nine", () -> nine.lost(3, true), STATE);
        error(nine, "lost(3) of nine", () -> nine.lost(3, false), STATE);
        error(nine, "lost(11) of nine", () -> nine.lost(11, false), OUTSIDE);
        nine.aside(0);
        // Eight are left: good if the odd one is lost (7/10), or if it alone is left (3/10 * 0.7^7).
        lostIs(nine, 7, 72470629, 100000000);
    }

    private static void seed() {
        promise = 26;
        CommonUnits x = new CommonUnits();
        due("seed(5)", x.seed(5), 0);
        due("seed(MIN)", x.seed(Long.MIN_VALUE), 5);
        due("seed(-1)", x.seed(-1), Long.MIN_VALUE);
        x.drawn(1);
        due("seed(0)", x.seed(0), -6364136223846793005L + 1442695040888963407L);
        due("no act", x.count(7), 0);
    }

    private static void drawn() {
        promise = 27;
        CommonUnits x = new CommonUnits();
        due("drawn(1) without mints", x.drawn(1), 0);
        due("the seed moves", x.seed(0), 1442695040888963407L);
        due("drawn(20) without mints", x.drawn(20), 0);
        error(x, "drawn(0)", () -> x.drawn(0), OUTSIDE);
        error(x, "drawn(21)", () -> x.drawn(21), OUTSIDE);
        error(x, "drawn(-1)", () -> x.drawn(-1), OUTSIDE);
        long seed = 0;
        for (int k = 0; k < 20; k++) {
            seed = seed * 6364136223846793005L + 1442695040888963407L;
        }
        due("the seed moves twenty times", x.seed(0), seed);
        // One mint, no wear: every coin is known, also those of 12 * 999.
        CommonUnits sure = Check.of("H00m999");
        due("drawn(20)", sure.drawn(20), 20);
        due("no coin comes of it", sure.count(1), 0);
        due("no act", sure.count(7), 0);
        // The first mint takes what two like ones strike.
        CommonUnits twins = Check.of("H00m100m100");
        seed = 0;
        int ofFirst = 0;
        for (int k = 0; k < 20; k++) {
            seed = seed * 6364136223846793005L + 1442695040888963407L;
            ofFirst += (int) (seed >>> 33) % 2 == 0 ? 1 : 0;
        }
        due("drawn(20) of twins", twins.drawn(20), ofFirst);
        // A unit of 1 and much wear: what is worn away is not known.
        CommonUnits worn = Check.of("H90m001");
        seed = 0;
        int known = 0;
        for (int k = 0; k < 20; k++) {
            seed = seed * 6364136223846793005L + 1442695040888963407L;
            int v = (int) (seed >>> 33);
            known += 1 + v / 4 % 12 - v / 1024 % (9 * (v / 64 % 10) + 1) >= 1 ? 1 : 0;
        }
        due("drawn(20) of worn ones", worn.drawn(20), known);
        due("drawn(20) once more", worn.seed(0), seed);
        // Three mints and much wear: what one of them strikes may be nearer to another.
        CommonUnits mixed = Check.of("H50m070m110m097");
        int[] units = {70, 110, 97};
        seed = 0;
        known = 0;
        for (int k = 0; k < 20; k++) {
            seed = seed * 6364136223846793005L + 1442695040888963407L;
            int v = (int) (seed >>> 33);
            int wear = 5 * (v / 64 % 10);
            int weight = (1 + v / 4 % 12) * units[v % 3] - v / 1024 % (wear + 1);
            int best = -1;
            int least = wear + 1;
            for (int mint = 0; mint < 3; mint++) {
                for (int n = 1; n <= 12; n++) {
                    int loss = n * units[mint] - weight;
                    if (loss >= 0 && loss < least) {
                        least = loss;
                        best = mint;
                    }
                }
            }
            known += best == v % 3 ? 1 : 0;
        }
        due("drawn(20) of three mints", mixed.drawn(20), known);
        CHECK.holds("some of three mints are known, some not", known > 0 && known < 20);
    }

    private static void keep() {
        promise = 28;
        CommonUnits x = Check.of("H10c1005c0600m050");
        x.aside(1);
        due("keep(0)", x.keep(0), 2);
        due("acts stay", x.count(7), 1);
        x.clean(0, 7);
        x.date(0, 7);
        x.strike(0, 7);
        x.setRate(7);
        x.setLaw(2);
        x.aside(1);
        due("keep(1)", x.keep(1), 2);
        due("acts stay", x.count(7), 7);
        x.clean(0, 8);
        due("again(0)", x.again(0), 2);
        int[] kept = {100, 5, 50, 1, 0, 2};
        int[] got = {x.coin(0, 0), x.coin(0, 1), x.mint(0, 0), x.count(3), x.count(4), x.count(5)};
        for (int k = 0; k < kept.length; k++) {
            due("kept value " + k, got[k], kept[k]);
        }
        due("again(1)", x.again(1), 2);
        due("weight", x.coin(0, 0), 7);
        due("aside", x.count(5), 0);
        x.clean(0, 9);
        due("keep(1) in place of it", x.keep(1), 2);
        x.clean(0, 10);
        x.again(1);
        due("weight", x.coin(0, 0), 9);
        error(x, "keep(2)", () -> x.keep(2), UNKNOWN);
        error(x, "keep(-1)", () -> x.keep(-1), UNKNOWN);
        due("keep(0) of nothing", new CommonUnits().keep(0), 0);
    }

    private static void again() {
        promise = 29;
        CommonUnits x = Check.of("H10c1005c0600m050");
        x.clean(0, 99);
        error(x, "again(0) when empty", () -> x.again(0), STATE);
        error(x, "again(2)", () -> x.again(2), UNKNOWN);
        error(x, "again(-1)", () -> x.again(-1), UNKNOWN);
        x.keep(1);
        error(x, "again(0) when only the other is kept", () -> x.again(0), STATE);
        x.clean(0, 98);
        x.see(0, 1);
        x.seed(9);
        due("again(1)", x.again(1), 2);
        due("weight", x.coin(0, 0), 99);
        due("no act", x.count(7), 0);
        due("undo()", x.undo(), STATE);
        x.clean(0, 97);
        due("again(1): it stays there", x.again(1), 2);
        due("weight", x.coin(0, 0), 99);
        due("observations stay", x.count(8), 1);
        due("the seed stays", x.seed(0), 9);
        due("the text stays", x.count(0), 17);
        CommonUnits empty = new CommonUnits();
        empty.setRate(4);
        empty.keep(0);
        empty.setRate(5);
        due("again(0) without coins", empty.again(0), 0);
        due("rate", empty.count(3), 4);
    }

    private static void count() {
        promise = 30;
        CommonUnits x = Check.of("H72c1005c0600c0010m050c0999m030");
        x.aside(0);
        x.aside(3);
        x.aside(0);
        x.see(0, 1);
        x.see(2, 0);
        int[] wants = {31, 4, 2, 7, 2, 8, 4, 3, 2};
        for (int what = 0; what <= 8; what++) {
            due("count(" + what + ")", x.count(what), wants[what]);
        }
        x.date(0, 0);
        x.strike(0, 1);
        due("false without mint 50", x.count(6), 1);
        x.aside(2);
        due("aside", x.count(5), 12);
        due("count(6) without those aside", x.count(6), 1);
        due("all are false without mints", Check.of("H10c0010c0020").count(6), 3);
        error(x, "count(9)", () -> x.count(9), OUTSIDE);
        error(x, "count(-1)", () -> x.count(-1), OUTSIDE);
    }
}
