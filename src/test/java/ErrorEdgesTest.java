import java.util.ArrayList;
import java.util.Arrays;
import java.util.LinkedHashMap;
import java.util.List;
import java.util.Map;
import java.util.Set;

/**
 * The edges of "Errors": every method with every mixture of arguments at, below and above their limits,
 * in several states, beside the model. What is refused or only asked must change nothing.
 */
public final class ErrorEdgesTest {
    private static final int MIN = Edges.MIN, MAX = Edges.MAX;
    private static final Set<String> CHANGES = Set.of("write", "wipe", "hoard", "clean", "date", "aside", "strike",
        "setRate", "setLaw", "undo", "see", "unsee", "seed", "drawn", "keep", "again");
    private static final String RICH = "type H31c1005m050c0609c0480m033; hoard; see 0 1; see 1 0; seed 12345; keep 0;"
        + " clean 0 96; date 1 3; keep 1; aside 2; strike 0 48; setRate 2; setLaw 2; type H12m012c0247";
    private static final String[] STATES = {
        "",
        RICH,
        RICH + "; type " + "H12m012c0247".repeat(11).substring(0, 130),
        RICH + "; see 2 0; see 2 1; see 0 0; see 1 1; again 1",
        "type H00m999c0010; hoard; keep 1; type H1",
        "type H92" + "c0019".repeat(12) + "m183m184m001; hoard; keep 0; aside 3; aside 11; see 11 1",
    };

    private static Edges edges;
    private final String state;
    private final String untouched;

    public static void main(String[] args) {
        edges = new Edges("ErrorEdgesTest", args);
        for (String state : STATES) {
            new ErrorEdgesTest(state).everyCall();
        }
        edges.end();
    }

    private ErrorEdgesTest(String state) {
        this.state = state;
        untouched = Probe.of(units());
    }

    private CommonUnits units() {
        CommonUnits x = new CommonUnits();
        Script.run(x, state);
        return x;
    }

    private Model model() {
        Model model = new Model();
        Script.run(model, state);
        return model;
    }

    private void everyCall() {
        int coins = units().count(1);
        int mints = units().count(2);
        for (Map.Entry<String, long[][]> method : argumentsOf(coins, mints).entrySet()) {
            for (long[] arguments : mixtures(method.getValue())) {
                call(method.getKey(), arguments);
            }
        }
    }

    private void call(String name, long[] arguments) {
        CommonUnits x = units();
        Model model = model();
        long answer = Script.call(x, name, arguments);
        String call = Script.told(name, arguments) + " after '" + state + "'";
        edges.sentence("Each method lists its errors in the order in which they are checked; the first one that applies"
            + " is returned.");
        edges.due(call, answer, Script.call(model, name, arguments));
        boolean refused = answer >= Edges.FULL && answer <= Edges.UNKNOWN && !name.equals("seed");
        if (refused || !CHANGES.contains(name)) {
            edges.sentence("A call that returns an error changes nothing.");
            edges.holds(call + " changes nothing", Probe.of(x).equals(untouched));
        } else {
            for (int what = 0; what <= 8; what++) {
                edges.due("count(" + what + ") after " + call, x.count(what), model.count(what));
            }
        }
    }

    /** For each method, for each of its parameters, the values to try. */
    private static Map<String, long[][]> argumentsOf(int coins, int mints) {
        long[] coin = {MIN, -1, 0, coins - 1, coins, 12, MAX};
        long[] mint = {MIN, -1, 0, mints - 1, mints, 3, MAX};
        long[] number = {MIN, 0, 1, 48, 999, 1000, MAX};
        long[] digit = {MIN, -1, 0, 9, 10, MAX};
        long[] what = {MIN, -1, 0, 1, 2, 3, 4, 5, 6, 8, 9, MAX};
        long[] few = {MIN, -1, 0, 1, 2, 3, 4, MAX};
        long[] upper = {0, 1};
        Map<String, long[][]> all = new LinkedHashMap<>();
        all.put("write", new long[][] {{MIN, -1, 0, 'c', 'H', 255, 256, MAX}});
        for (String name : List.of("wipe", "fault", "hoard", "undo", "unsee")) {
            all.put(name, new long[][] {});
        }
        all.put("coin", new long[][] {coin, what});
        all.put("mint", new long[][] {mint, what});
        all.put("clean", new long[][] {coin, number});
        all.put("date", new long[][] {coin, digit});
        all.put("aside", new long[][] {coin});
        all.put("strike", new long[][] {mint, number});
        all.put("setRate", new long[][] {digit});
        all.put("setLaw", new long[][] {few});
        all.put("fits", new long[][] {coin, number, few});
        all.put("chain", new long[][] {coin, few});
        all.put("unit", new long[][] {number, few});
        all.put("ranked", new long[][] {{MIN, -1, 0, 1, 997, 998, 999, MAX}});
        all.put("pair", new long[][] {few});
        all.put("judge", new long[][] {few, {Long.MIN_VALUE, -1, 0, 702000, 999999, 1000000, 702000702000L,
            999999999999L, 1000000000000L, 702000702000702000L, 999999999999999999L, 1000000000000000000L,
            Long.MAX_VALUE}});
        all.put("see", new long[][] {coin, few});
        all.put("which", new long[][] {few});
        all.put("share", new long[][] {coin, upper});
        all.put("lost", new long[][] {{MIN, -1, 0, 1, 9, 10, 11, MAX}, upper});
        all.put("seed", new long[][] {{Long.MIN_VALUE, -1, 0, Long.MAX_VALUE}});
        all.put("drawn", new long[][] {{MIN, -1, 0, 1, 20, 21, MAX}});
        all.put("keep", new long[][] {few});
        all.put("again", new long[][] {few});
        all.put("count", new long[][] {what});
        return all;
    }

    private static List<long[]> mixtures(long[][] values) {
        List<long[]> all = new ArrayList<>();
        all.add(new long[0]);
        for (long[] next : values) {
            List<long[]> longer = new ArrayList<>();
            for (long[] start : all) {
                for (long value : next) {
                    long[] mixture = Arrays.copyOf(start, start.length + 1);
                    mixture[start.length] = value;
                    longer.add(mixture);
                }
            }
            all = longer;
        }
        return all;
    }
}
