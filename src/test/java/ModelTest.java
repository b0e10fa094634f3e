import java.util.Random;

/** Random runs of calls, the class beside the model; the seeds are fixed, so every run is the same. */
public final class ModelTest {
    private static final int RUNS = 400;
    private static final int CALLS = 512;
    private static final Check CHECK = new Check("ModelTest");

    private final Random random;
    private final CommonUnits units = new CommonUnits();
    private final Model model = new Model();
    private final StringBuilder calls = new StringBuilder();
    private final int run;
    private int left = CALLS;

    private ModelTest(int run) {
        this.run = run;
        random = new Random(run);
    }

    public static void main(String[] args) {
        for (int run = 0; run < RUNS && CHECK.wrong() == 0; run++) {
            new ModelTest(run).play();
        }
        CHECK.end();
    }

    private void play() {
        if (random.nextInt(8) > 0) {
            readHoard(random.nextInt(5) == 0);
        }
        while (left > 0 && CHECK.wrong() == 0) {
            int kind = random.nextInt(100);
            if (kind < 2) {
                readHoard(random.nextInt(3) == 0);
            } else if (kind < 35) {
                change();
            } else if (kind < 50) {
                askAll();
            } else {
                ask();
            }
        }
    }

    private void same(String call, long got, long want) {
        left--;
        calls.append(call).append(" -> ").append(got).append('\n');
        CHECK.due("run " + run + ": " + call, got, want);
        if (got != want) {
            System.out.println("the calls of this run:\n" + calls);
        }
    }

    /** A text of a hoard; a spoiled one has one sign changed, or a part too many. */
    private void readHoard(boolean spoiled) {
        StringBuilder text = new StringBuilder("H");
        text.append(random.nextInt(10)).append(random.nextInt(3));
        int coins = random.nextInt(4) == 0 ? 12 : random.nextInt(13);
        int mints = random.nextInt(4);
        int most = new int[] {999, 999, 300, 60, 3}[random.nextInt(5)];
        if (spoiled && random.nextBoolean()) {
            coins = 13;
        }
        while (coins + mints > 0) {
            if (random.nextInt(coins + mints) < coins) {
                text.append(String.format("c%03d%d", 1 + random.nextInt(most), random.nextInt(10)));
                coins--;
            } else {
                text.append(String.format("m%03d", 1 + random.nextInt(random.nextBoolean() ? 100 : most)));
                mints--;
            }
        }
        if (spoiled) {
            String signs = "Hcm0001239x";
            text.setCharAt(random.nextInt(text.length()), signs.charAt(random.nextInt(signs.length())));
        }
        same("wipe()", units.wipe(), model.wipe());
        for (int k = 0; k < text.length(); k++) {
            int letter = text.charAt(k);
            same("write(" + letter + ")", units.write(letter), model.write(letter));
        }
        same("fault()", units.fault(), model.fault());
        same("hoard()", units.hoard(), model.hoard());
    }

    /** Mostly in the range, at times at its edges or beyond. */
    private int near(int least, int most) {
        switch (random.nextInt(24)) {
            case 0:
                return least - 1;
            case 1:
                return most + 1;
            case 2:
                return random.nextBoolean() ? Integer.MIN_VALUE : Integer.MAX_VALUE;
            case 3:
                return least;
            case 4:
                return most;
            default:
                return least + random.nextInt(most - least + 1);
        }
    }

    private int someCoin() {
        int coins = model.count(1);
        return near(0, Math.max(0, coins - 1));
    }

    private int someMint() {
        return near(0, Math.max(0, model.count(2) - 1));
    }

    private void change() {
        int coin = someCoin();
        int mint = someMint();
        switch (random.nextInt(11)) {
            case 0: {
                int weight = near(1, 999);
                same("clean(" + coin + "," + weight + ")", units.clean(coin, weight), model.clean(coin, weight));
                break;
            }
            case 1: {
                int years = near(0, 9);
                same("date(" + coin + "," + years + ")", units.date(coin, years), model.date(coin, years));
                break;
            }
            case 2:
            case 3:
                same("aside(" + coin + ")", units.aside(coin), model.aside(coin));
                break;
            case 4: {
                int unit = near(1, 999);
                same("strike(" + mint + "," + unit + ")", units.strike(mint, unit), model.strike(mint, unit));
                break;
            }
            case 5: {
                int v = near(0, 9);
                same("setRate(" + v + ")", units.setRate(v), model.setRate(v));
                break;
            }
            case 6: {
                int v = near(0, 2);
                same("setLaw(" + v + ")", units.setLaw(v), model.setLaw(v));
                break;
            }
            case 7:
            case 8:
                same("undo()", units.undo(), model.undo());
                break;
            case 9: {
                int slot = near(0, 1);
                same("keep(" + slot + ")", units.keep(slot), model.keep(slot));
                break;
            }
            default: {
                int slot = near(0, 1);
                same("again(" + slot + ")", units.again(slot), model.again(slot));
                break;
            }
        }
    }

    /** All that tells the state, so that a change that should not be is seen at once. */
    private void askAll() {
        for (int what = 0; what <= 8; what++) {
            same("count(" + what + ")", units.count(what), model.count(what));
        }
        int coin = someCoin();
        for (int what = 0; what <= 5; what++) {
            same("coin(" + coin + "," + what + ")", units.coin(coin, what), model.coin(coin, what));
        }
        int mint = someMint();
        for (int what = 0; what <= 3; what++) {
            same("mint(" + mint + "," + what + ")", units.mint(mint, what), model.mint(mint, what));
        }
    }

    private void ask() {
        int coin = someCoin();
        boolean upper = random.nextBoolean();
        switch (random.nextInt(16)) {
            case 0:
            case 1: {
                int unit = near(1, 999);
                int what = near(0, 3);
                same("fits(" + coin + "," + unit + "," + what + ")", units.fits(coin, unit, what),
                    model.fits(coin, unit, what));
                break;
            }
            case 2: {
                int k = near(0, 3);
                same("chain(" + coin + "," + k + ")", units.chain(coin, k), model.chain(coin, k));
                break;
            }
            case 3:
            case 4: {
                int unit = near(1, random.nextBoolean() ? 999 : 99);
                int what = near(0, 3);
                same("unit(" + unit + "," + what + ")", units.unit(unit, what), model.unit(unit, what));
                break;
            }
            case 5: {
                int rank = near(0, random.nextBoolean() ? 998 : 9);
                same("ranked(" + rank + ")", units.ranked(rank), model.ranked(rank));
                break;
            }
            case 6: {
                int what = near(0, 3);
                same("pair(" + what + ")", units.pair(what), model.pair(what));
                break;
            }
            case 7:
            case 8: {
                int n = near(1, 3);
                long row = someRow(n);
                same("judge(" + n + "," + row + ")", units.judge(n, row), model.judge(n, row));
                claimAfter(row / 1000000 % 1000000);
                break;
            }
            case 9: {
                int was = near(0, 1);
                same("see(" + coin + "," + was + ")", units.see(coin, was), model.see(coin, was));
                break;
            }
            case 10: {
                if (random.nextInt(3) == 0) {
                    same("unsee()", units.unsee(), model.unsee());
                }
                int what = near(0, 2);
                same("which(" + what + ")", units.which(what), model.which(what));
                break;
            }
            case 11:
                same("share(" + coin + "," + upper + ")", units.share(coin, upper), model.share(coin, upper));
                break;
            case 12: {
                int x = near(0, 10);
                same("lost(" + x + "," + upper + ")", units.lost(x, upper), model.lost(x, upper));
                break;
            }
            case 13: {
                long v = random.nextLong();
                same("seed(" + v + ")", units.seed(v), model.seed(v));
                break;
            }
            case 14: {
                int m = near(1, 20);
                same("drawn(" + m + ")", units.drawn(m), model.drawn(m));
                break;
            }
            default: {
                int letter = near(0, 255);
                same("write(" + letter + ")", units.write(letter), model.write(letter));
                same("fault()", units.fault(), model.fault());
                break;
            }
        }
    }

    /** One step and then every claim about one coin: the true one tells what the step has done. */
    private void claimAfter(long step) {
        int coin = Math.min(99, Math.max(0, someCoin()));
        for (int mint : new int[] {0, 1, 2, 9}) {
            long row = step * 1000000 + 500000 + coin * 1000 + mint * 100;
            same("judge(2," + row + ")", units.judge(2, row), model.judge(2, row));
        }
    }

    private long someRow(int n) {
        if (random.nextInt(12) == 0) {
            return random.nextBoolean() ? random.nextLong() : (long) Math.pow(10, 6 * Math.max(1, Math.min(3, n)));
        }
        long row = 0;
        for (int k = 0; k < n && k < 3; k++) {
            row = row * 1000000 + someStep();
        }
        return row;
    }

    /** Mostly a step that can be, with claims that are often true. */
    private int someStep() {
        int coin = Math.min(99, Math.max(0, someCoin()));
        int mint = Math.min(9, Math.max(0, someMint()));
        int spoil = random.nextInt(12) == 0 ? (int) Math.pow(10, random.nextInt(6)) : 0;
        int of = model.coin(coin, 4);
        int claimed = random.nextInt(4) == 0 ? random.nextInt(10) : of < 0 ? 9 : of;
        int first = random.nextInt(4) == 0 ? random.nextInt(1000) : model.ranked(0);
        int[] steps = {100000 + coin * 1000 + random.nextInt(1000), 200000 + coin * 1000 + random.nextInt(10) * 100,
            300000 + coin * 1000, 400000 + mint * 10000 + random.nextInt(1000), 500000 + coin * 1000 + claimed * 100,
            600000 + first, 700000 + random.nextInt(4) * 1000, random.nextInt(1000000)};
        return (steps[random.nextInt(steps.length)] + spoil) % 1000000;
    }
}
