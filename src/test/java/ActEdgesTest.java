import java.util.LinkedHashMap;
import java.util.Map;

/** The edges of "Acts", sentence by sentence, and of the promises 8 to 14, 28 and 29. */
public final class ActEdgesTest {
    private static final int UNKNOWN = Edges.UNKNOWN, OUTSIDE = Edges.OUTSIDE, STATE = Edges.STATE;
    private static final int MIN = Edges.MIN, MAX = Edges.MAX;
    private static Edges edges;

    public static void main(String[] args) {
        edges = new Edges("ActEdgesTest", args);
        everySuccessIsAnAct();
        nothingElseIsAnAct();
        fourteenActs();
        ringGoesRound();
        undoneAndDoneAnew();
        questionsAskNow();
        clean();
        date();
        aside();
        strike();
        setRate();
        setLaw();
        undo();
        keep();
        slotsAreCopies();
        again();
        lastCalls();
        edges.end();
    }

    private static CommonUnits small() {
        return Check.of("H31c1005c0609m050");
    }

    private static Map<String, Edges.Call> actsThatChange() {
        Map<String, Edges.Call> acts = new LinkedHashMap<>();
        acts.put("clean(1, 61)", x -> x.clean(1, 61));
        acts.put("date(0, 6)", x -> x.date(0, 6));
        acts.put("aside(1)", x -> x.aside(1));
        acts.put("strike(0, 51)", x -> x.strike(0, 51));
        acts.put("setRate(4)", x -> x.setRate(4));
        acts.put("setLaw(2)", x -> x.setLaw(2));
        return acts;
    }

    private static Map<String, Edges.Call> actsThatLeaveAll() {
        Map<String, Edges.Call> acts = new LinkedHashMap<>();
        acts.put("clean(1, 60)", x -> x.clean(1, 60));
        acts.put("date(0, 5)", x -> x.date(0, 5));
        acts.put("strike(0, 50)", x -> x.strike(0, 50));
        acts.put("setRate(3)", x -> x.setRate(3));
        acts.put("setLaw(1)", x -> x.setLaw(1));
        return acts;
    }

    private static void everySuccessIsAnAct() {
        edges.sentence("Each successful call of clean(), date(), aside(), strike(), setRate() and setLaw() is an act,"
            + " also if nothing becomes different by it.");
        Map<String, Edges.Call> acts = new LinkedHashMap<>(actsThatLeaveAll());
        acts.putAll(actsThatChange());
        String untouched = Probe.of(small());
        for (Map.Entry<String, Edges.Call> act : acts.entrySet()) {
            CommonUnits x = small();
            edges.holds(act.getKey() + " is no error", act.getValue().on(x) >= 0);
            edges.due(act.getKey() + ": acts", x.count(7), 1);
            edges.due(act.getKey() + " once more", Math.min(0, act.getValue().on(x)), 0);
            edges.due(act.getKey() + ": acts", x.count(7), 2);
            edges.due("undo() of " + act.getKey(), x.undo(), 1);
            edges.due("undo() of the first " + act.getKey(), x.undo(), 0);
            edges.holds(act.getKey() + " undone is as before", Probe.of(x).equals(untouched));
        }
    }

    private static void nothingElseIsAnAct() {
        edges.sentence("Each successful call of clean(), date(), aside(), strike(), setRate() and setLaw() is an act");
        CommonUnits x = small();
        x.clean(0, 99);
        x.wipe();
        x.write('H');
        x.fault();
        x.hoard();
        x.see(0, 1);
        x.unsee();
        x.seed(4);
        x.drawn(3);
        x.keep(0);
        x.judge(3, 100007300000701000L);
        x.ranked(0);
        x.pair(0);
        x.share(0, true);
        x.lost(2, true);
        edges.due("acts", x.count(7), 1);
        x.clean(2, 5);
        x.clean(0, 0);
        x.date(-1, 5);
        x.date(0, 10);
        x.aside(2);
        x.strike(1, 5);
        x.strike(0, 1000);
        x.setRate(10);
        x.setLaw(3);
        edges.due("acts after refused calls", x.count(7), 1);
        edges.due("undo()", x.undo(), 0);
        edges.due("the weight", x.coin(0, 0), 100);
    }

    private static void fourteenActs() {
        edges.sentence("The last 14 acts can be undone, the latest one first.");
        for (int acts : new int[] {1, 2, 13, 14, 15, 16, 27, 28, 29, 100}) {
            CommonUnits x = small();
            for (int k = 1; k <= acts; k++) {
                edges.due("clean to " + (200 + k), x.clean(0, 200 + k), k == 1 ? 100 : 199 + k);
                edges.due("acts", x.count(7), Math.min(14, k));
            }
            int undone = Math.min(14, acts);
            for (int k = 1; k <= undone; k++) {
                edges.due("undo()", x.undo(), undone - k);
                edges.due("weight", x.coin(0, 0), acts - k == 0 ? 100 : 200 + acts - k);
            }
            edges.due("undo() of one more", x.undo(), STATE);
            edges.due("weight", x.coin(0, 0), acts <= 14 ? 100 : 200 + acts - 14);
        }
    }

    /** Each kind of act in turn, so that every place of a ring of fourteen holds every kind at some time. */
    private static void ringGoesRound() {
        edges.sentence("The last 14 acts can be undone, the latest one first.");
        for (int acts = 1; acts <= 60; acts++) {
            CommonUnits x = small();
            int[][] states = new int[acts + 1][];
            states[0] = state(x);
            for (int k = 1; k <= acts; k++) {
                act(x, k);
                states[k] = stateAfter(states[k - 1], k);
            }
            for (int left = acts - 1; left >= 0 && left >= acts - 14; left--) {
                edges.due("undo()", x.undo(), Math.min(14, acts) - acts + left);
                if (left % 5 == 0 || left == acts - 14) {
                    edges.all("after " + left + " acts", state(x), states[left]);
                }
            }
            edges.due("undo() of one more", x.undo(), STATE);
        }
    }

    private static void act(CommonUnits x, int k) {
        switch (k % 6) {
            case 0:
                x.clean(0, 300 + k);
                break;
            case 1:
                x.date(1, k / 6 % 9);
                break;
            case 2:
                x.aside(0);
                break;
            case 3:
                x.strike(0, 400 + k);
                break;
            case 4:
                x.setRate(k / 6 % 9);
                break;
            default:
                x.setLaw(k / 6 % 3);
                break;
        }
    }

    private static int[] state(CommonUnits x) {
        return new int[] {x.coin(0, 0), x.coin(1, 1), x.coin(0, 3), x.mint(0, 0), x.count(3), x.count(4)};
    }

    private static int[] stateAfter(int[] before, int k) {
        int[] after = before.clone();
        int[] values = {300 + k, k / 6 % 9, 1 - before[2], 400 + k, k / 6 % 9, k / 6 % 3};
        after[k % 6] = values[k % 6];
        return after;
    }

    private static void undoneAndDoneAnew() {
        edges.sentence("Undoes the latest act that can be undone and is not undone yet");
        CommonUnits x = small();
        x.clean(0, 101);
        x.clean(0, 102);
        x.clean(0, 103);
        edges.due("undo()", x.undo(), 2);
        edges.due("weight", x.coin(0, 0), 102);
        x.clean(0, 104);
        edges.due("acts", x.count(7), 3);
        edges.due("undo() of the new act", x.undo(), 2);
        edges.due("weight", x.coin(0, 0), 102);
        edges.due("undo() of the act before the one undone first", x.undo(), 1);
        edges.due("weight", x.coin(0, 0), 101);
        edges.due("undo()", x.undo(), 0);
        edges.due("weight", x.coin(0, 0), 100);
        // Fourteen acts, some undone, and again as many as there is room for, and one more.
        for (int k = 1; k <= 14; k++) {
            x.clean(0, 200 + k);
        }
        for (int k = 1; k <= 5; k++) {
            x.undo();
        }
        for (int k = 1; k <= 5; k++) {
            x.clean(0, 300 + k);
        }
        edges.due("acts", x.count(7), 14);
        x.clean(0, 306);
        edges.due("acts", x.count(7), 14);
        for (int k = 13; k >= 0; k--) {
            edges.due("undo()", x.undo(), k);
        }
        edges.due("undo() of one more", x.undo(), STATE);
        edges.due("the weight before the oldest that is left", x.coin(0, 0), 201);
    }

    /** What every question answers, before and after each change. */
    private static int[] questions(CommonUnits x) {
        x.seed(99);
        return new int[] {x.coin(0, 2), x.coin(0, 4), x.coin(0, 5), x.mint(0, 1), x.mint(0, 3), x.fits(0, 21, 1),
            x.chain(0, 0), x.unit(21, 0), x.unit(21, 2), x.unit(21, 3), x.ranked(0), x.pair(0), x.pair(1), x.pair(2),
            x.pair(3), x.judge(1, 500000), x.judge(1, 600020), x.which(0), x.which(1), x.which(2), x.share(1, true),
            x.share(1, false), x.lost(3, true), x.lost(3, false), x.drawn(20), x.count(6)};
    }

    private static CommonUnits asked(String text) {
        CommonUnits x = Check.of(text);
        x.see(0, 1);
        return x;
    }

    private static void questionsAskNow() {
        edges.sentence("All questions refer to coins, mints, the rate and the wear rule as they are when they are"
            + " asked.");
        String text = "H11c0605c0418c1003m020";
        Map<String, Edges.Call> changes = new LinkedHashMap<>();
        changes.put("H11c0635c0418c1003m020", x -> x.clean(0, 63));
        changes.put("H11c0609c0418c1003m020", x -> x.date(0, 9));
        changes.put("H11c0605c0418c1003m021", x -> x.strike(0, 21));
        changes.put("H91c0605c0418c1003m020", x -> x.setRate(9));
        changes.put("H12c0605c0418c1003m020", x -> x.setLaw(2));
        for (Map.Entry<String, Edges.Call> change : changes.entrySet()) {
            CommonUnits x = asked(text);
            int[] before = questions(x);
            change.getValue().on(x);
            edges.all("after an act, as " + change.getKey(), questions(x), questions(asked(change.getKey())));
            x.undo();
            edges.all("after undo() of " + change.getKey(), questions(x), before);
            x.keep(0);
            change.getValue().on(x);
            questions(x);
            x.again(0);
            edges.all("after again() from " + change.getKey(), questions(x), before);
            Check.type(x, change.getKey());
            x.hoard();
            edges.all("after hoard() of " + change.getKey(), questions(x), questions(asked(change.getKey())));
        }
        CommonUnits x = asked(text);
        int[] before = questions(x);
        x.aside(2);
        edges.due("pair(2) without the last coin", x.pair(2), 3);
        edges.due("lost(0) without the last coin", x.lost(0, true), x.unit(x.ranked(0), 0) == 2 ? 1 : 0);
        edges.due("share(2) of the last coin", x.share(2, true), STATE);
        x.aside(2);
        edges.all("aside and back", questions(x), before);
    }

    private static void clean() {
        edges.sentence("Returns the weight before; UNKNOWN if there is no such coin; OUTSIDE if weight is out of"
            + " range.");
        CommonUnits x = small();
        edges.due("clean(1, 999)", x.clean(1, 999), 60);
        edges.due("clean(1, 1)", x.clean(1, 1), 999);
        edges.due("clean(1, 1)", x.clean(1, 1), 1);
        edges.due("weight", x.coin(1, 0), 1);
        edges.due("the other coin", x.coin(0, 0), 100);
        for (int weight : new int[] {0, 1000, -1, MIN, MAX}) {
            edges.refused(Edges::rich, "clean(0, " + weight + ")", y -> y.clean(0, weight), OUTSIDE);
            edges.refused(Edges::rich, "clean(2, " + weight + ")", y -> y.clean(2, weight), OUTSIDE);
            edges.refused(Edges::rich, "clean(3, " + weight + ")", y -> y.clean(3, weight), UNKNOWN);
            edges.refused(Edges::rich, "clean(-1, " + weight + ")", y -> y.clean(-1, weight), UNKNOWN);
        }
        edges.refused(Edges::rich, "clean(3, 5)", y -> y.clean(3, 5), UNKNOWN);
        edges.refused(CommonUnits::new, "clean(0, 0) without coins", y -> y.clean(0, 0), UNKNOWN);
    }

    private static void date() {
        edges.sentence("Returns the years before; UNKNOWN if there is no such coin; OUTSIDE if years is out of range.");
        CommonUnits x = small();
        for (int years = 0; years <= 9; years++) {
            edges.due("date(1, " + years + ")", x.date(1, years), years == 0 ? 9 : years - 1);
        }
        edges.due("years", x.coin(1, 1), 9);
        edges.due("years of the other coin", x.coin(0, 1), 5);
        for (int years : new int[] {-1, 10, MIN, MAX}) {
            edges.refused(Edges::rich, "date(0, " + years + ")", y -> y.date(0, years), OUTSIDE);
            edges.refused(Edges::rich, "date(2, " + years + ")", y -> y.date(2, years), OUTSIDE);
            edges.refused(Edges::rich, "date(3, " + years + ")", y -> y.date(3, years), UNKNOWN);
            edges.refused(Edges::rich, "date(-1, " + years + ")", y -> y.date(-1, years), UNKNOWN);
        }
        edges.refused(Edges::rich, "date(3, 5)", y -> y.date(3, 5), UNKNOWN);
        edges.refused(CommonUnits::new, "date(0, 10) without coins", y -> y.date(0, 10), UNKNOWN);
    }

    private static void aside() {
        edges.sentence("Puts a coin aside if it is not aside, and takes it back if it is.");
        CommonUnits three = Check.of("H10c1005c1005c1005");
        for (int k = 1; k <= 20; k++) {
            edges.due("aside(1), time " + k, three.aside(1), k % 2);
            edges.due("those aside", three.count(5), 2 * (k % 2));
        }
        edges.sentence("Returns 1 if it is aside then, 0 if not; UNKNOWN if there is no such coin.");
        CommonUnits x = Check.of("H10" + "c1005".repeat(12));
        edges.due("aside(0)", x.aside(0), 1);
        edges.due("aside(11)", x.aside(11), 1);
        edges.due("those aside", x.count(5), 2049);
        edges.due("aside(0)", x.aside(0), 0);
        edges.due("those aside", x.count(5), 2048);
        edges.due("aside(11)", x.aside(11), 0);
        edges.due("those aside", x.count(5), 0);
        edges.due("aside(12)", x.aside(12), UNKNOWN);
        for (int coin : new int[] {-1, 3, 12, MIN, MAX}) {
            edges.refused(Edges::rich, "aside(" + coin + ")", y -> y.aside(coin), UNKNOWN);
        }
        edges.refused(CommonUnits::new, "aside(0) without coins", y -> y.aside(0), UNKNOWN);
    }

    private static void strike() {
        edges.sentence("Returns the unit before; UNKNOWN if there is no such mint; OUTSIDE if unit is out of range.");
        CommonUnits x = Check.of("H10m010m020m030");
        edges.due("strike(2, 999)", x.strike(2, 999), 30);
        edges.due("strike(2, 1)", x.strike(2, 1), 999);
        edges.due("strike(0, 11)", x.strike(0, 11), 10);
        edges.due("unit 0", x.mint(0, 0), 11);
        edges.due("unit 1", x.mint(1, 0), 20);
        edges.due("unit 2", x.mint(2, 0), 1);
        edges.due("strike(3, 1)", x.strike(3, 1), UNKNOWN);
        for (int unit : new int[] {0, 1000, -1, MIN, MAX}) {
            edges.refused(Edges::rich, "strike(0, " + unit + ")", y -> y.strike(0, unit), OUTSIDE);
            edges.refused(Edges::rich, "strike(1, " + unit + ")", y -> y.strike(1, unit), OUTSIDE);
            edges.refused(Edges::rich, "strike(2, " + unit + ")", y -> y.strike(2, unit), UNKNOWN);
            edges.refused(Edges::rich, "strike(-1, " + unit + ")", y -> y.strike(-1, unit), UNKNOWN);
        }
        edges.refused(Edges::rich, "strike(2, 5)", y -> y.strike(2, 5), UNKNOWN);
        edges.refused(CommonUnits::new, "strike(0, 0) without mints", y -> y.strike(0, 0), UNKNOWN);
    }

    private static void setRate() {
        edges.sentence("Returns the rate before; OUTSIDE if v is out of range.");
        CommonUnits x = new CommonUnits();
        edges.due("setRate(9)", x.setRate(9), 1);
        edges.due("setRate(0)", x.setRate(0), 9);
        edges.due("setRate(0)", x.setRate(0), 0);
        edges.due("rate", x.count(3), 0);
        for (int rate : new int[] {-1, 10, MIN, MAX}) {
            edges.refused(Edges::rich, "setRate(" + rate + ")", y -> y.setRate(rate), OUTSIDE);
        }
    }

    private static void setLaw() {
        edges.sentence("Returns the wear rule before; OUTSIDE if v is out of range.");
        CommonUnits x = new CommonUnits();
        edges.due("setLaw(2)", x.setLaw(2), 0);
        edges.due("setLaw(0)", x.setLaw(0), 2);
        edges.due("setLaw(1)", x.setLaw(1), 0);
        edges.due("wear rule", x.count(4), 1);
        for (int law : new int[] {-1, 3, MIN, MAX}) {
            edges.refused(Edges::rich, "setLaw(" + law + ")", y -> y.setLaw(law), OUTSIDE);
        }
    }

    private static void undo() {
        edges.sentence("weights, years, coins that are aside, units, the rate and the wear rule become as they were"
            + " before it.");
        for (Map.Entry<String, Edges.Call> act : actsThatChange().entrySet()) {
            CommonUnits x = Edges.rich();
            String before = Probe.of(Edges.rich());
            act.getValue().on(x);
            edges.due("undo() of " + act.getKey(), x.undo(), 6);
            edges.holds("all is as before " + act.getKey(), Probe.of(x).equals(before));
        }
        CommonUnits x = small();
        x.clean(0, 7);
        x.see(0, 1);
        x.seed(8);
        x.wipe();
        x.keep(1);
        edges.due("undo()", x.undo(), 0);
        edges.due("observations are not undone", x.count(8), 1);
        edges.due("the seed is not undone", x.seed(0), 8);
        edges.due("the text is not undone", x.count(0), 0);
        edges.due("the slot is not undone", x.again(1), 2);
        edges.due("weight in the slot", x.coin(0, 0), 7);
        edges.sentence("Returns how many acts can still be undone; STATE if there is none.");
        edges.refused(CommonUnits::new, "undo() of a new object", CommonUnits::undo, STATE);
        edges.refused(ActEdgesTest::small, "undo() after hoard()", CommonUnits::undo, STATE);
        edges.refused(() -> undoneAll(14), "undo() when all is undone", CommonUnits::undo, STATE);
        edges.refused(() -> undoneAll(17), "undo() when all that can be is undone", CommonUnits::undo, STATE);
    }

    private static CommonUnits undoneAll(int acts) {
        CommonUnits x = small();
        x.keep(0);
        for (int k = 0; k < acts; k++) {
            x.clean(0, 200 + k);
        }
        for (int k = 0; k < 14; k++) {
            x.undo();
        }
        return x;
    }

    private static void keep() {
        edges.sentence("Returns the number of coins; UNKNOWN if there is no such slot.");
        edges.due("keep(0) without coins", new CommonUnits().keep(0), 0);
        edges.due("keep(1) of twelve", Check.of("H10" + "c1005".repeat(12)).keep(1), 12);
        for (int slot : new int[] {-1, 2, MIN, MAX}) {
            edges.refused(Edges::rich, "keep(" + slot + ")", x -> x.keep(slot), UNKNOWN);
            edges.refused(CommonUnits::new, "keep(" + slot + ")", x -> x.keep(slot), UNKNOWN);
        }
        edges.sentence("Keeps the weights, the years, which coins are aside, the units, the rate and the wear rule in"
            + " a slot, in place of what is there.");
        for (Map.Entry<String, Edges.Call> act : actsThatChange().entrySet()) {
            for (int slot = 0; slot <= 1; slot++) {
                CommonUnits x = small();
                edges.due("keep(" + slot + ")", x.keep(slot), 2);
                act.getValue().on(x);
                edges.due("acts stay", x.count(7), 1);
                edges.due("again(" + slot + ")", x.again(slot), 2);
                CommonUnits kept = small();
                kept.keep(slot);
                edges.holds("again() after " + act.getKey(), Probe.of(x).equals(Probe.of(kept)));
                edges.due("the other slot is empty", x.again(1 - slot), STATE);
            }
        }
        CommonUnits x = small();
        x.keep(0);
        x.clean(0, 7);
        edges.due("keep(0) in place of it", x.keep(0), 2);
        x.clean(0, 8);
        x.again(0);
        edges.due("weight", x.coin(0, 0), 7);
        x.keep(1);
        x.clean(0, 9);
        edges.due("undo() of an act after keep()", x.undo(), 0);
        edges.due("weight", x.coin(0, 0), 7);
    }

    private static void slotsAreCopies() {
        edges.sentence("Restores what is kept in a slot; it stays there.");
        for (Map.Entry<String, Edges.Call> act : actsThatChange().entrySet()) {
            CommonUnits x = small();
            x.keep(0);
            x.keep(1);
            x.again(0);
            act.getValue().on(x);
            x.again(1);
            int[] first = state(x);
            act.getValue().on(x);
            x.again(0);
            edges.all("slot 0 after " + act.getKey(), state(x), state(small()));
            edges.all("slot 1 after " + act.getKey(), first, state(small()));
            x.undo();
            edges.due("again(0) once more", x.again(0), 2);
            edges.all("slot 0 once more", state(x), state(small()));
        }
    }

    private static void again() {
        edges.sentence("Restores what is kept in a slot; it stays there. No act can be undone then.");
        CommonUnits x = Edges.rich();
        edges.due("acts before", x.count(7), 6);
        edges.due("again(1)", x.again(1), 3);
        edges.due("acts", x.count(7), 0);
        edges.due("undo()", x.undo(), STATE);
        edges.due("weight", x.coin(0, 0), 96);
        x.aside(0);
        edges.due("undo() of an act after it", x.undo(), 0);
        edges.due("undo() of one before it", x.undo(), STATE);
        edges.due("again(0)", x.again(0), 3);
        edges.due("weight", x.coin(0, 0), 100);
        edges.due("the text stays", x.count(0), 12);
        edges.due("observations stay", x.count(8), 2);
        edges.due("the seed stays", x.seed(0), 12345);
        CommonUnits empty = new CommonUnits();
        empty.keep(1);
        empty.setRate(7);
        edges.due("again(1) without coins", empty.again(1), 0);
        edges.due("rate", empty.count(3), 1);
        edges.sentence("Returns the number of coins; UNKNOWN if there is no such slot; STATE if the slot is empty.");
        for (int slot : new int[] {-1, 2, MIN, MAX}) {
            edges.refused(Edges::rich, "again(" + slot + ")", y -> y.again(slot), UNKNOWN);
            edges.refused(CommonUnits::new, "again(" + slot + ")", y -> y.again(slot), UNKNOWN);
        }
        for (int slot = 0; slot <= 1; slot++) {
            int asked = slot;
            edges.refused(CommonUnits::new, "again(" + slot + ")", y -> y.again(asked), STATE);
            edges.refused(() -> acted(asked), "again(" + slot + ")", y -> y.again(asked), STATE);
        }
    }

    /** With an act, and with the other slot filled. */
    private static CommonUnits acted(int emptySlot) {
        CommonUnits x = small();
        x.keep(1 - emptySlot);
        x.clean(0, 7);
        return x;
    }

    private static void lastCalls() {
        edges.sentence("An object is used for at most 512 calls after it has been made");
        CommonUnits x = new CommonUnits();
        for (int call = 1; call <= 497; call++) {
            edges.due("call " + call, x.setRate(call % 10), call == 1 ? 1 : (call - 1) % 10);
        }
        for (int left = 13; left >= 0; left--) {
            edges.due("undo()", x.undo(), left);
        }
        edges.due("the last call", x.count(3), (497 - 14) % 10);
    }
}
