/**
 * All that an object can be made to tell, its acts, slots and text too: these are told by undoing,
 * restoring and reading, so the object is spoiled then. Two objects that tell the same are alike.
 */
final class Probe {
    /** An object may be used for 512 calls; the rest of them is for what comes before the probe. */
    private static final int MOST_CALLS = 320;

    private final CommonUnits x;
    private final StringBuilder told = new StringBuilder();
    private int calls;

    private Probe(CommonUnits x) {
        this.x = x;
    }

    static String of(CommonUnits x) {
        Probe probe = new Probe(x);
        probe.numbers();
        probe.hoard();
        probe.search();
        probe.past();
        probe.slots();
        probe.text();
        if (probe.calls > MOST_CALLS) {
            throw new IllegalStateException("a probe of " + probe.calls + " calls");
        }
        return probe.told.toString();
    }

    private void tell(long answer) {
        calls++;
        told.append(answer).append(' ');
    }

    private void numbers() {
        told.append("numbers ");
        for (int what = 0; what <= 8; what++) {
            tell(x.count(what));
        }
        for (int what = 0; what <= 2; what++) {
            tell(x.which(what));
        }
        tell(x.fault());
    }

    /** Weights, years, units; which coins are aside, the rate and the wear rule. */
    private void hoard() {
        told.append("hoard ");
        int coins = x.count(1);
        int mints = x.count(2);
        for (int coin = 0; coin < coins; coin++) {
            tell(x.coin(coin, 0));
            tell(x.coin(coin, 1));
        }
        for (int mint = 0; mint < mints; mint++) {
            tell(x.mint(mint, 0));
        }
        for (int what = 3; what <= 5; what++) {
            tell(x.count(what));
        }
        calls += 2;
    }

    private void search() {
        told.append("search ");
        tell(x.ranked(0));
        tell(x.ranked(998));
        tell(x.unit(7, 3));
        for (int what = 0; what <= 3; what++) {
            tell(x.pair(what));
        }
        tell(x.lost(3, true));
        tell(x.share(0, true));
        tell(x.seed(1));
        tell(x.drawn(20));
    }

    private void past() {
        for (int acts = x.count(7); acts >= 0; acts--) {
            told.append("undo ");
            tell(x.undo());
            hoard();
        }
        calls++;
    }

    private void slots() {
        for (int slot = 0; slot <= 1; slot++) {
            told.append("again ");
            tell(x.again(slot));
            hoard();
        }
    }

    private void text() {
        told.append("text ");
        tell(x.hoard());
        hoard();
    }
}
