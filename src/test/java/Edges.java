import java.io.IOException;
import java.nio.file.Files;
import java.nio.file.Path;
import java.util.Arrays;
import java.util.function.Supplier;

/** What the tests of single sentences share: the sentence in hand, and calls that must change nothing. */
final class Edges {
    static final int UNKNOWN = -1, OUTSIDE = -2, STATE = -3, FULL = -4, NONE = -9;

    /** Numbers that are below or above every range of the document. */
    static final int MIN = Integer.MIN_VALUE, MAX = Integer.MAX_VALUE;

    /** Coins of no years whose weights are primes: each fits the unit of its own weight and no other. */
    private static final int[] PRIMES = {9970, 9910, 9830, 9770, 9710, 9670, 9530, 9470, 9410, 9370, 9290, 9190};

    /** One call. */
    interface Call {
        long on(CommonUnits x);
    }

    private final Check check;
    private final String document;
    private String sentence = "";

    /** The second argument of a test, if there is one, is the path of the document. */
    Edges(String name, String[] args) {
        check = new Check(name);
        document = args.length > 1 ? read(Path.of(args[1])) : "";
    }

    private static String read(Path path) {
        try {
            return onOneLine(Files.readString(path));
        } catch (IOException gone) {
            return "";
        }
    }

    private static String onOneLine(String text) {
        return text.replaceAll("\\s+", " ");
    }

    /** What follows tests these words. The document may be worded anew, so this is told and no fault. */
    void sentence(String words) {
        sentence = words;
        if (!document.isEmpty() && !document.contains(onOneLine(words))) {
            System.out.println("note: these words do not stand in the document: " + words);
        }
    }

    void due(String call, long got, long want) {
        check.due("\"" + sentence + "\": " + call, got, want);
    }

    /** Several answers of the same call, for what = 0, 1 and so on. */
    void all(String call, int[] got, int... wants) {
        due(call + ": number of answers", got.length, wants.length);
        for (int what = 0; what < wants.length && what < got.length; what++) {
            due(call + ", what " + what, got[what], wants[what]);
        }
    }

    void holds(String what, boolean so) {
        check.holds("\"" + sentence + "\": " + what, so);
    }

    /** The call answers an error, and changes nothing. */
    void refused(Supplier<CommonUnits> state, String call, Call asked, int error) {
        asked(state, call, asked, error);
    }

    /** The call answers this, and changes nothing. */
    void asked(Supplier<CommonUnits> state, String call, Call asked, long want) {
        due(call, changingNothing(state, call, asked), want);
    }

    /** After the call the object is like one that was not called. */
    long changingNothing(Supplier<CommonUnits> state, String call, Call asked) {
        CommonUnits x = state.get();
        long answer = asked.on(x);
        holds(call + " changes nothing", Probe.of(x).equals(Probe.of(state.get())));
        return answer;
    }

    void end() {
        check.end();
    }

    /**
     * Three coins, two mints, six acts, both slots filled and different, two observations, a seed, and
     * another text than the one that was read: whatever a call spoils can be seen.
     */
    static CommonUnits rich() {
        CommonUnits x = Check.of("H31c1005m050c0609c0480m033");
        x.see(0, 1);
        x.see(1, 0);
        x.seed(12345);
        x.keep(0);
        x.clean(0, 96);
        x.date(1, 3);
        x.keep(1);
        x.aside(2);
        x.strike(0, 48);
        x.setRate(2);
        x.setLaw(2);
        Check.type(x, "H12m012c0247");
        return x;
    }

    /** As rich, with six observations. */
    static CommonUnits sixSeen() {
        CommonUnits x = rich();
        for (int k = 0; k < 4; k++) {
            x.see(k % 3, 0);
        }
        return x;
    }

    /** As rich, with a text of 130 characters. */
    static CommonUnits fullText() {
        CommonUnits x = rich();
        Check.type(x, "H12m012c0247" + "x".repeat(118));
        return x;
    }

    /** As rich, with a text that has a fault behind a coin and a mint. */
    static CommonUnits faulty() {
        CommonUnits x = rich();
        Check.type(x, "H12m012c0247x");
        return x;
    }

    /** Nine coins that are not aside, one that is, a kept slot and a mint. */
    static CommonUnits nine() {
        CommonUnits x = Check.of("H10" + "c0120".repeat(9) + "c0350m006");
        x.keep(1);
        x.aside(9);
        return x;
    }

    /** Text for a hoard without mints; each coin is its weight and a digit for its years. */
    static String coins(String head, int... weightsAndYears) {
        StringBuilder text = new StringBuilder(head);
        for (int coin : weightsAndYears) {
            text.append(String.format("c%04d", coin));
        }
        return text.toString();
    }

    /** So many coins, no two of which have a unit in common; the first is the heaviest. */
    static CommonUnits primes(int number) {
        return Check.of(coins("H00", Arrays.copyOf(PRIMES, number)));
    }

    static int[] fitsAll(CommonUnits x, int coin, int unit) {
        return new int[] {x.fits(coin, unit, 0), x.fits(coin, unit, 1), x.fits(coin, unit, 2), x.fits(coin, unit, 3)};
    }

    static int[] pairAll(CommonUnits x) {
        return new int[] {x.pair(0), x.pair(1), x.pair(2), x.pair(3)};
    }

    static int[] mintAll(CommonUnits x, int mint) {
        return new int[] {x.mint(mint, 0), x.mint(mint, 1), x.mint(mint, 2), x.mint(mint, 3)};
    }

    static int[] unitAll(CommonUnits x, int unit) {
        return new int[] {x.unit(unit, 0), x.unit(unit, 1), x.unit(unit, 2), x.unit(unit, 3)};
    }

    static int[] whichAll(CommonUnits x) {
        return new int[] {x.which(0), x.which(1), x.which(2)};
    }

    static int[] shareOf(CommonUnits x, int coin) {
        return new int[] {x.share(coin, true), x.share(coin, false)};
    }

    static int[] lostOf(CommonUnits x, int tenths) {
        return new int[] {x.lost(tenths, true), x.lost(tenths, false)};
    }
}
