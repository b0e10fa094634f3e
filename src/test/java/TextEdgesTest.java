/** The edges of "The text", sentence by sentence, and of the promises 2 to 5. */
public final class TextEdgesTest {
    private static final int OUTSIDE = Edges.OUTSIDE, STATE = Edges.STATE, FULL = Edges.FULL, NONE = Edges.NONE;
    private static final int MIN = Edges.MIN, MAX = Edges.MAX;
    private static final String TWELVE = "c0010".repeat(12);
    private static final String THREE = "m001m002m003";
    private static Edges edges;

    public static void main(String[] args) {
        edges = new Edges("TextEdgesTest", args);
        length();
        letters();
        wipe();
        head();
        parts();
        coinPart();
        mintPart();
        everyLetterAtEveryPlace();
        firstFault();
        tooManyParts();
        thirdNought();
        endsTooEarly();
        fault();
        hoardReplaces();
        hoardForgets();
        hoardLeaves();
        hoardRefused();
        edges.end();
    }

    private static CommonUnits typed(String text) {
        CommonUnits x = new CommonUnits();
        Check.type(x, text);
        return x;
    }

    /** fault() and hoard() must agree: a hoard is read if there is no fault. */
    private static void faultOf(String text, int want) {
        CommonUnits x = typed(text);
        edges.due("fault() of '" + text + "'", x.fault(), want);
        edges.due("hoard() of '" + text + "'", Math.min(0, x.hoard()), want == NONE ? 0 : STATE);
    }

    private static void length() {
        edges.sentence("The text has at most 130 characters.");
        CommonUnits x = new CommonUnits();
        for (int length = 1; length <= 130; length++) {
            edges.due("write", x.write('H'), length);
        }
        edges.due("write to a full text", x.write('H'), FULL);
        edges.due("write to a full text once more", x.write('H'), FULL);
        edges.due("length", x.count(0), 130);
        edges.due("wipe()", x.wipe(), 130);
        edges.due("write after wipe()", x.write('H'), 1);
        edges.sentence("FULL if there are 130 characters.");
        edges.refused(Edges::fullText, "write(72)", y -> y.write(72), FULL);
        edges.refused(Edges::fullText, "write(0)", y -> y.write(0), FULL);
        edges.refused(Edges::fullText, "write(255)", y -> y.write(255), FULL);
    }

    private static void letters() {
        edges.sentence("Returns the length of the text then; OUTSIDE if letter is out of range; FULL if there are 130"
            + " characters.");
        CommonUnits low = new CommonUnits();
        CommonUnits high = new CommonUnits();
        for (int letter = 0; letter <= 127; letter++) {
            edges.due("write(" + letter + ")", low.write(letter), letter + 1);
            edges.due("write(" + (letter + 128) + ")", high.write(letter + 128), letter + 1);
        }
        for (int letter : new int[] {-1, 256, 256 + 'H', -256 + 'H', 65536 + 'H', MIN, MAX}) {
            edges.refused(CommonUnits::new, "write(" + letter + ")", x -> x.write(letter), OUTSIDE);
            edges.refused(Edges::rich, "write(" + letter + ")", x -> x.write(letter), OUTSIDE);
            edges.refused(Edges::fullText, "write(" + letter + ") to a full text", x -> x.write(letter), OUTSIDE);
        }
    }

    private static void wipe() {
        edges.sentence("Empties the text. Returns the length that it had.");
        for (int length : new int[] {0, 1, 2, 129, 130}) {
            CommonUnits x = typed("H".repeat(length));
            edges.due("wipe()", x.wipe(), length);
            edges.due("length", x.count(0), 0);
            edges.due("fault()", x.fault(), 0);
            edges.due("wipe() of nothing", x.wipe(), 0);
        }
        CommonUnits x = Edges.rich();
        edges.due("wipe()", x.wipe(), 12);
        Check.type(x, "H12m012c0247");
        edges.holds("nothing else is different", Probe.of(x).equals(Probe.of(Edges.rich())));
    }

    private static void head() {
        edges.sentence("The text of a hoard consists of the letter H, a digit for the rate (0 to 9) and a digit for"
            + " the wear rule (0 to 2)");
        for (int rate = 0; rate <= 9; rate++) {
            for (int law = 0; law <= 9; law++) {
                faultOf("H" + rate + law, law <= 2 ? NONE : 2);
            }
        }
        faultOf("h10", 0);
        faultOf("G10", 0);
        faultOf("I10", 0);
        faultOf("H/0", 1);
        faultOf("H:0", 1);
        faultOf("H1/", 2);
        faultOf("H13", 2);
    }

    private static void parts() {
        edges.sentence("followed by any number of parts, in any order, without blanks");
        faultOf("H10", NONE);
        faultOf("H10c0010", NONE);
        faultOf("H10m001", NONE);
        faultOf("H10" + TWELVE + THREE, NONE);
        faultOf("H10" + THREE + TWELVE, NONE);
        faultOf("H10m001" + "c0010".repeat(6) + "m002" + "c0010".repeat(6) + "m003", NONE);
        faultOf("H10c0010m001c0010m001c0010m001c0010", NONE);
        String text = "H92c1234m567c8900";
        for (int place = 0; place <= text.length(); place++) {
            faultOf(text.substring(0, place) + " " + text.substring(place), place);
        }
        CommonUnits x = Check.of("H10m007c0113m008c0224m009c0335");
        edges.due("the next coin", x.coin(2, 0), 33);
        edges.due("the next mint", x.mint(2, 0), 9);
        edges.due("the first mint", x.mint(0, 0), 7);
    }

    private static void coinPart() {
        edges.sentence("cWWWY   the next coin, with the weight WWW (three digits, 001 to 999) and Y years (one digit);"
            + " at most 12 times");
        CommonUnits x = Check.of("H10c0010c9999c0100c1001c0999c9009");
        int[][] coins = {{1, 0}, {999, 9}, {10, 0}, {100, 1}, {99, 9}, {900, 9}};
        for (int coin = 0; coin < coins.length; coin++) {
            edges.due("weight of " + coin, x.coin(coin, 0), coins[coin][0]);
            edges.due("years of " + coin, x.coin(coin, 1), coins[coin][1]);
        }
        for (int years = 0; years <= 9; years++) {
            edges.due("years " + years, Check.of("H10c500" + years).coin(0, 1), years);
        }
        faultOf("H10c0000", 6);
        faultOf("H10c12345", 8);
        faultOf("H10c123c1234", 7);
        faultOf("H10" + TWELVE, NONE);
        faultOf("H10" + TWELVE + "c0010", 63);
    }

    private static void mintPart() {
        edges.sentence("mUUU    the next mint, with the unit UUU (three digits, 001 to 999); at most 3 times");
        int[] units = {1, 10, 100, 99, 900, 999};
        for (int unit : units) {
            edges.due("unit " + unit, Check.of(String.format("H10m%03d", unit)).mint(0, 0), unit);
        }
        faultOf("H10m000", 6);
        faultOf("H10m0010", 7);
        faultOf("H10m01m001", 6);
        faultOf("H10" + THREE, NONE);
        faultOf("H10" + THREE + "m004", 15);
    }

    /** One coin, one mint, one coin: which letters may stand at each place, and what is missing then. */
    private static void everyLetterAtEveryPlace() {
        edges.sentence("Its fault is the position (from 0) of the first character that is not allowed at its place");
        String text = "H92c1234m567c8900";
        String digits = "0123456789";
        String[] allowed = {"H", digits, "012", "cm", digits, digits, digits, digits, "cm", digits, digits, digits,
            "cm", digits, digits, digits, digits, "cm"};
        for (int place = 0; place < allowed.length; place++) {
            boolean whole = place == 2 || place == 7 || place == 11 || place == 16;
            for (int letter = 0; letter <= 255; letter++) {
                boolean right = allowed[place].indexOf(letter) >= 0;
                String start = text.substring(0, place) + (char) letter;
                faultOf(start, !right ? place : whole ? NONE : place + 1);
                if (!right) {
                    edges.due("fault() with more behind it", typed(start + "c0010").fault(), place);
                }
            }
        }
    }

    private static void firstFault() {
        edges.sentence("The text is read from left to right.");
        faultOf("xH10", 0);
        faultOf("xxxx", 0);
        faultOf("Hx3c", 1);
        faultOf("H1xx", 2);
        faultOf("H10c00000", 6);
        faultOf("H10c0010m00xm000", 11);
        faultOf("H10m000c0000", 6);
        faultOf("H10" + "x".repeat(127), 3);
        faultOf("H10" + TWELVE + THREE + "x".repeat(55), 75);
    }

    private static void tooManyParts() {
        edges.sentence("also a c behind twelve coins, an m behind three mints");
        faultOf("H10" + TWELVE + "c", 63);
        faultOf("H10" + TWELVE + "c0", 63);
        faultOf("H10" + TWELVE + "m", 64);
        faultOf("H10" + "c0010".repeat(11) + "c", 59);
        faultOf("H10" + "c0010".repeat(11) + "c0010", NONE);
        faultOf("H10" + THREE + "m", 15);
        faultOf("H10" + THREE + "m0", 15);
        faultOf("H10" + THREE + "c", 16);
        faultOf("H10m001m002m", 12);
        faultOf("H10" + TWELVE + THREE + "c", 75);
        faultOf("H10" + TWELVE + THREE + "m", 75);
        faultOf("H10" + THREE + TWELVE + "m", 75);
        faultOf("H10m001" + "c0010".repeat(11) + "m002c0010m003c", 75);
    }

    private static void thirdNought() {
        edges.sentence("and a third digit 0 behind 00");
        for (String part : new String[] {"c", "m"}) {
            faultOf("H10" + part + "00", 6);
            faultOf("H10" + part + "000", 6);
            faultOf("H10" + part + "0000", 6);
            for (int digit = 1; digit <= 9; digit++) {
                String text = "H10" + part + "00" + digit;
                faultOf(text, part.equals("c") ? 7 : NONE);
            }
            faultOf("H10" + part + "010", part.equals("c") ? 7 : NONE);
            faultOf("H10" + part + "100", part.equals("c") ? 7 : NONE);
            faultOf("H10" + part + "110", part.equals("c") ? 7 : NONE);
        }
        faultOf("H10c0010", NONE);
        faultOf("H10c1000", NONE);
    }

    private static void endsTooEarly() {
        edges.sentence("It is the length of the text if the text ends too early.");
        String text = "H92" + TWELVE + THREE;
        for (int length = 0; length <= text.length(); length++) {
            boolean whole = length >= 3 && (length <= 63 ? (length - 3) % 5 == 0 : (length - 63) % 4 == 0);
            faultOf(text.substring(0, length), whole ? NONE : length);
        }
    }

    private static void fault() {
        edges.sentence("Returns the fault; NONE if there is none.");
        edges.asked(CommonUnits::new, "fault() of nothing", CommonUnits::fault, 0);
        edges.asked(Edges::rich, "fault() of a text without one", CommonUnits::fault, NONE);
        edges.asked(Edges::faulty, "fault() behind the last part", CommonUnits::fault, 12);
        edges.asked(Edges::fullText, "fault() of a full text", CommonUnits::fault, 12);
        CommonUnits x = typed("H10c001");
        edges.due("fault()", x.fault(), 7);
        x.write('5');
        edges.due("fault() after a write", x.fault(), NONE);
        x.write('c');
        edges.due("fault() after another", x.fault(), 9);
    }

    private static void hoardReplaces() {
        edges.sentence("Replaces coins, mints, the rate and the wear rule by those of the text.");
        CommonUnits x = Check.of("H92" + "c9999".repeat(12) + "m997m998m999");
        edges.due("coins", x.count(1), 12);
        Check.type(x, "H01c0300");
        edges.due("hoard() of one coin", x.hoard(), 1);
        edges.due("its weight", x.coin(0, 0), 30);
        edges.due("its years", x.coin(0, 1), 0);
        edges.due("the second coin is gone", x.coin(1, 0), Edges.UNKNOWN);
        edges.due("mints are gone", x.mint(0, 0), Edges.UNKNOWN);
        edges.due("mints", x.count(2), 0);
        edges.due("rate", x.count(3), 0);
        edges.due("wear rule", x.count(4), 1);
        edges.due("the unit of rank 0", x.ranked(0), 30);
        edges.due("unit(333, 0)", x.unit(333, 0), 0);
        Check.type(x, "H10");
        edges.due("hoard() of nothing", x.hoard(), 0);
        edges.due("coins", x.count(1), 0);
        edges.due("the unit of rank 0", x.ranked(0), 999);
        Check.type(x, "H92" + TWELVE + THREE);
        edges.due("hoard() of twelve", x.hoard(), 12);
        edges.due("the last coin", x.coin(11, 0), 1);
        edges.due("the last mint", x.mint(2, 0), 3);
        edges.sentence("Returns the number of coins; STATE if the text has a fault.");
        for (int coins = 0; coins <= 12; coins++) {
            edges.due("hoard()", typed("H10" + "c1005".repeat(coins)).hoard(), coins);
        }
    }

    private static void hoardForgets() {
        edges.sentence("No coin is aside, no act can be undone, and all slots are empty then.");
        CommonUnits x = Edges.rich();
        edges.due("acts before", x.count(7), 6);
        edges.due("hoard()", x.hoard(), 1);
        edges.due("acts", x.count(7), 0);
        edges.due("undo()", x.undo(), STATE);
        edges.due("again(0)", x.again(0), STATE);
        edges.due("again(1)", x.again(1), STATE);
        edges.due("aside", x.count(5), 0);
        x.aside(0);
        edges.due("undo() of an act after it", x.undo(), 0);
        edges.due("undo() of one before it", x.undo(), STATE);
        CommonUnits all = Check.of("H10" + TWELVE);
        for (int coin = 0; coin < 12; coin++) {
            all.aside(coin);
        }
        edges.due("hoard() of the same text", all.hoard(), 12);
        edges.due("none is aside", all.count(5), 0);
        edges.due("the last is not aside", all.coin(11, 3), 0);
        // A step of judge() puts a coin aside, but not really.
        all.judge(1, 300000);
        edges.due("hoard() after judge()", all.hoard(), 12);
        edges.due("none is aside", all.count(5), 0);
    }

    private static void hoardLeaves() {
        edges.sentence("The text, the observations and the seed stay.");
        CommonUnits x = Edges.rich();
        x.hoard();
        edges.due("length of the text", x.count(0), 12);
        edges.due("fault of the text", x.fault(), NONE);
        edges.due("observations", x.count(8), 2);
        edges.due("seed", x.seed(0), 12345);
        edges.due("hoard() of the text that stays", x.hoard(), 1);
        edges.due("its coin", x.coin(0, 0), 24);
        x.write('c');
        edges.due("the text goes on", x.fault(), 13);
    }

    private static void hoardRefused() {
        edges.sentence("Returns the number of coins; STATE if the text has a fault.");
        edges.refused(CommonUnits::new, "hoard() of nothing", CommonUnits::hoard, STATE);
        edges.refused(Edges::faulty, "hoard() with a fault at the end", CommonUnits::hoard, STATE);
        edges.refused(Edges::fullText, "hoard() of a full text", CommonUnits::hoard, STATE);
        String[] texts = {"", "H", "H1", "H13", "H12c", "H12c024", "H12c0247m", "H12c0247m01", "H12c0247m000"};
        for (String text : texts) {
            edges.refused(() -> {
                CommonUnits x = Edges.rich();
                Check.type(x, text);
                return x;
            }, "hoard() of '" + text + "'", CommonUnits::hoard, STATE);
        }
    }
}
