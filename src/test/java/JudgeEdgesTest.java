/** The edges of promise 20, sentence by sentence. */
public final class JudgeEdgesTest {
    private static final int OUTSIDE = Edges.OUTSIDE, NONE = Edges.NONE;
    private static final int CALLS_OF_ONE = 400;
    /** Coins 0, 3 and on are of mint 0, coin 1 is of mint 1, coin 2 is false; the unit of rank 0 is 100. */
    private static final String HOARD = "H10c1005c0990c0070" + "c1005".repeat(8) + "m050m033";
    private static Edges edges;

    public static void main(String[] args) {
        edges = new Edges("JudgeEdgesTest", args);
        numberOfSteps();
        digitsOfRow();
        highestDigitsFirst();
        weights();
        years();
        asides();
        units();
        claimsOfMints();
        claimsOfRank();
        rules();
        everyStep();
        oneAfterTheOther();
        fromThePresentStateOn();
        firstThatFails();
        threeSteps();
        nothingChanges();
        edges.end();
    }

    private static CommonUnits hoard() {
        return Check.of(HOARD);
    }

    /** One step, told by its six digits. */
    private static void step(int step, int want) {
        edges.due("judge(1, " + step + ")", hoard().judge(1, step), want);
    }

    private static void steps(CommonUnits x, int n, long row, int want) {
        edges.due("judge(" + n + ", " + row + ")", x.judge(n, row), want);
    }

    private static void numberOfSteps() {
        edges.sentence("OUTSIDE if n is out of range, or row is negative or has more than 6 * n digits.");
        for (int n : new int[] {0, 4, -1, Edges.MIN, Edges.MAX}) {
            for (long row : new long[] {0, 702000, 702000702000702000L, -1, Long.MAX_VALUE, Long.MIN_VALUE}) {
                edges.refused(Edges::rich, "judge(" + n + ", " + row + ")", x -> x.judge(n, row), OUTSIDE);
            }
        }
        steps(hoard(), 1, 702000L, NONE);
        steps(hoard(), 2, 702000702000L, NONE);
        steps(hoard(), 3, 702000702000702000L, NONE);
    }

    private static void digitsOfRow() {
        edges.sentence("OUTSIDE if n is out of range, or row is negative or has more than 6 * n digits.");
        long size = 1;
        for (int n = 1; n <= 3; n++) {
            size *= 1000000;
            int steps = n;
            long first = size;
            edges.asked(Edges::rich, "judge(" + n + ", " + (first - 1) + ")", x -> x.judge(steps, first - 1), 0);
            edges.asked(Edges::rich, "judge(" + n + ", 0)", x -> x.judge(steps, 0), 0);
            long[] rows = {first, first + 702000, first * 7 + 2000, -1, -702000, Long.MIN_VALUE, Long.MAX_VALUE};
            for (long row : rows) {
                edges.refused(Edges::rich, "judge(" + n + ", " + row + ")", x -> x.judge(steps, row), OUTSIDE);
            }
        }
        // Its last 32 bits are a step that could be.
        edges.refused(Edges::rich, "judge(1, 2^32 + 702000)", x -> x.judge(1, (1L << 32) + 702000), OUTSIDE);
        edges.refused(CommonUnits::new, "judge(1, 1000000) without coins", x -> x.judge(1, 1000000), OUTSIDE);
    }

    private static void highestDigitsFirst() {
        edges.sentence("each of which is given by six decimal digits, those of the first step being the highest ones"
            + " of a number");
        steps(hoard(), 1, 702000L, NONE);
        // The digits that are not written are noughts, and no step begins with one.
        steps(hoard(), 2, 702000L, 0);
        steps(hoard(), 3, 702000L, 0);
        steps(hoard(), 3, 702000702000L, 0);
        steps(hoard(), 1, 99999L, 0);
        steps(hoard(), 2, 702000000000L, 1);
        steps(hoard(), 2, 702000099999L, 1);
        steps(hoard(), 3, 702000702000099999L, 2);
    }

    private static void weights() {
        edges.sentence("1 cc www     the weight of coin cc becomes www, 001 to 999");
        step(100001, NONE);
        step(100999, NONE);
        step(100000, 0);
        step(110001, NONE);
        step(110000, 0);
        step(111001, 0);
        step(199999, 0);
    }

    private static void years() {
        edges.sentence("2 cc y 0 0   the years of coin cc become y");
        step(200000, NONE);
        step(200900, NONE);
        step(210900, NONE);
        step(211900, 0);
        step(299000, 0);
        step(200910, 0);
        step(200901, 0);
        step(200010, 0);
        step(200001, 0);
    }

    private static void asides() {
        edges.sentence("3 cc 0 0 0   coin cc is put aside, or taken back if it is aside");
        step(300000, NONE);
        step(310000, NONE);
        step(311000, 0);
        step(399000, 0);
        step(300100, 0);
        step(300010, 0);
        step(300001, 0);
        // Coin 1 is put aside and taken back: 99 is of rank 0 only if all coins of 100 are aside.
        CommonUnits x = Check.of("H00c1000c0990c0990");
        steps(x, 1, 600099, NONE);
        steps(x, 3, 301000302000600100L, NONE);
        steps(x, 3, 301000301000600099L, NONE);
        x.aside(1);
        x.aside(2);
        steps(x, 1, 600100, NONE);
        steps(x, 2, 300000600999L, NONE);
        steps(x, 3, 300000301000600099L, NONE);
    }

    private static void units() {
        edges.sentence("4 m 0 uuu    the unit of mint m becomes uuu, 001 to 999");
        step(400001, NONE);
        step(400999, NONE);
        step(400000, 0);
        step(410001, NONE);
        step(410000, 0);
        step(420001, 0);
        step(490001, 0);
        step(401050, 0);
        step(409050, 0);
    }

    private static void claimsOfMints() {
        edges.sentence("5 cc m 0 0   the claim that coin cc is of mint m, or, if m is 9, that it is false");
        int[] first = {NONE, 0, 0, 0, 0, 0, 0, 0, 0, 0};
        int[] second = {0, NONE, 0, 0, 0, 0, 0, 0, 0, 0};
        int[] third = {0, 0, 0, 0, 0, 0, 0, 0, 0, NONE};
        for (int mint = 0; mint <= 9; mint++) {
            step(500000 + mint * 100, first[mint]);
            step(501000 + mint * 100, second[mint]);
            step(502000 + mint * 100, third[mint]);
            step(510000 + mint * 100, first[mint]);
            step(511000 + mint * 100, 0);
        }
        step(500010, 0);
        step(500001, 0);
        step(502910, 0);
        step(502901, 0);
        step(599900, 0);
        CommonUnits none = Check.of("H10c1005");
        steps(none, 1, 500900, NONE);
        steps(none, 1, 500000, 0);
        none.aside(0);
        steps(none, 1, 500900, NONE);
        steps(new CommonUnits(), 1, 500900, 0);
    }

    private static void claimsOfRank() {
        edges.sentence("6 0 0 uuu    the claim that uuu is the unit of rank 0");
        step(600100, NONE);
        step(600099, 0);
        step(600101, 0);
        step(600000, 0);
        step(601100, 0);
        step(610100, 0);
        steps(new CommonUnits(), 1, 600999, NONE);
        steps(new CommonUnits(), 1, 600998, 0);
        steps(new CommonUnits(), 1, 600001, 0);
        steps(Edges.primes(12), 1, 600997, NONE);
        steps(Edges.primes(12), 1, 600999, 0);
        steps(Check.of("H92" + "c0019".repeat(12)), 1, 600001, NONE);
        steps(Check.of("H00c0010"), 1, 600001, NONE);
        steps(Check.of("H00c0010"), 1, 600999, 0);
        steps(Check.of("H00c9990"), 1, 600999, NONE);
        steps(Check.of("H00c9990"), 1, 600333, 0);
    }

    private static void rules() {
        edges.sentence("7 0 v 0 0 0  the wear rule becomes v, 0 to 2");
        step(700000, NONE);
        step(701000, NONE);
        step(702000, NONE);
        step(703000, 0);
        step(709000, 0);
        step(710000, 0);
        step(712000, 0);
        step(790000, 0);
        step(702100, 0);
        step(702010, 0);
        step(702001, 0);
        steps(new CommonUnits(), 1, 702000, NONE);
    }

    /** All numbers of six digits, as the forms say. */
    private static void everyStep() {
        edges.sentence("A step is impossible if it does not have one of these forms, or if there is no such coin or"
            + " mint.");
        CommonUnits x = hoard();
        int wrong = 0;
        for (int step = 0; step <= 999999; step++) {
            if (step % CALLS_OF_ONE == 0) {
                x = hoard();
            }
            int want = possible(step) ? NONE : 0;
            int got = x.judge(1, step);
            if (got != want) {
                wrong++;
                edges.due("judge(1, " + step + ")", got, want);
            }
        }
        edges.due("wrong answers", wrong, 0);
    }

    private static boolean possible(int step) {
        String digits = String.format("%06d", step);
        boolean coin = digits.substring(1, 3).compareTo("10") <= 0;
        boolean number = !digits.endsWith("000");
        switch (digits.charAt(0)) {
            case '1':
                return coin && number;
            case '2':
                return coin && digits.endsWith("00");
            case '3':
                return coin && digits.endsWith("000");
            case '4':
                return digits.charAt(1) <= '1' && digits.charAt(2) == '0' && number;
            case '5':
                String claim = digits.startsWith("501") ? "100" : digits.startsWith("502") ? "900" : "000";
                return coin && digits.endsWith(claim);
            case '6':
                return digits.equals("600100");
            case '7':
                return digits.equals("700000") || digits.equals("701000") || digits.equals("702000");
            default:
                return false;
        }
    }

    private static void oneAfterTheOther() {
        edges.sentence("The steps are done one after the other, from the present state on; claims are checked as"
            + " things are then.");
        // Coin 1 may have lost 5: 99 is 3 * 33. Coin 2 too: 99. Coin 3 would need 6.
        CommonUnits x = Check.of("H10c1005c0965c0945c0935m050m033");
        // A weight: 103 to 108 is no multiple.
        steps(x, 2, 100103500900L, NONE);
        steps(x, 2, 500900100103L, 0);
        steps(x, 2, 500000100103L, NONE);
        steps(x, 3, 100103100100500000L, NONE);
        // Years: 96 needs 3 of wear to be 99.
        steps(x, 2, 201200501900L, NONE);
        steps(x, 2, 201300501100L, NONE);
        steps(x, 2, 201300501900L, 1);
        // A unit.
        steps(x, 2, 400048501000L, NONE);
        steps(x, 2, 501000400048L, 0);
        steps(x, 3, 400048410048501000L, NONE);
        steps(x, 3, 410048400049501100L, NONE);
        // The wear rule: 5 years wear 5 by rule 0, 4 by rule 1 and 6 by rule 2.
        steps(x, 2, 700000502100L, NONE);
        steps(x, 2, 701000502900L, NONE);
        steps(x, 2, 702000502100L, NONE);
        steps(x, 2, 700000503900L, NONE);
        steps(x, 2, 702000503100L, NONE);
        steps(x, 3, 702000700000503900L, NONE);
        // Aside: what fits does not matter then for ranks, but still for mints.
        steps(x, 2, 301000501100L, NONE);
        steps(x, 3, 301000302000303000L, NONE);
    }

    private static void fromThePresentStateOn() {
        edges.sentence("from the present state on");
        CommonUnits x = Check.of("H10c1005m050");
        steps(x, 1, 500000, NONE);
        x.clean(0, 103);
        steps(x, 1, 500000, 0);
        steps(x, 1, 500900, NONE);
        x.undo();
        steps(x, 1, 500000, NONE);
        x.strike(0, 53);
        steps(x, 1, 500900, NONE);
        x.setRate(2);
        steps(x, 1, 500000, NONE);
        steps(x, 2, 701000500000L, NONE);
        x.setRate(1);
        x.setLaw(2);
        steps(x, 1, 500000, NONE);
        x.date(0, 4);
        steps(x, 1, 500900, NONE);
        steps(x, 1, 600100, NONE);
        x.aside(0);
        steps(x, 1, 600999, NONE);
        // What an earlier judge() did is no part of the present state.
        steps(x, 3, 300000100007700000L, NONE);
        steps(x, 1, 600999, NONE);
    }

    private static void firstThatFails() {
        edges.sentence("Returns the index, from 0, of the first step that is impossible or is a claim that is not"
            + " true; NONE if there is none");
        long[] good = {100100, 200500, 300000, 400050, 500000, 700000};
        long[] bad = {0, 100000, 111001, 211000, 311000, 420001, 500100, 500900, 511900, 600099, 600000, 703000,
            800000, 999999};
        for (long right : good) {
            for (long wrong : bad) {
                steps(hoard(), 1, wrong, 0);
                steps(hoard(), 2, wrong * 1000000 + right, 0);
                steps(hoard(), 2, right * 1000000 + wrong, 1);
                steps(hoard(), 3, (wrong * 1000000 + right) * 1000000 + right, 0);
                steps(hoard(), 3, (right * 1000000 + wrong) * 1000000 + right, 1);
                steps(hoard(), 3, (right * 1000000 + right) * 1000000 + wrong, 2);
                steps(hoard(), 3, (right * 1000000 + wrong) * 1000000 + wrong, 1);
                steps(hoard(), 3, (wrong * 1000000 + wrong) * 1000000 + wrong, 0);
            }
            steps(hoard(), 1, right, NONE);
            steps(hoard(), 2, right * 1000000 + right, NONE);
            steps(hoard(), 3, (right * 1000000 + right) * 1000000 + right, NONE);
        }
    }

    /** Every run of three out of some steps, beside the model. */
    private static void threeSteps() {
        edges.sentence("The steps are done one after the other, from the present state on; claims are checked as"
            + " things are then.");
        String text = "H10c1005c0965m050m033";
        long[] steps = {100096, 101103, 200000, 201200, 300000, 301000, 400048, 410048, 500000, 500900, 501100, 501900,
            600100, 600101, 701000, 999999};
        Model model = new Model();
        for (int k = 0; k < text.length(); k++) {
            model.write(text.charAt(k));
        }
        model.hoard();
        for (long first : steps) {
            for (long second : steps) {
                CommonUnits x = Check.of(text);
                for (long third : steps) {
                    long row = (first * 1000000 + second) * 1000000 + third;
                    steps(x, 3, row, model.judge(3, row));
                }
            }
        }
    }

    private static void nothingChanges() {
        edges.sentence("Nothing changes really.");
        long[] steps = {100007, 200700, 300000, 302000, 400007, 500000, 600096, 701000, 0, 999999};
        for (long first : steps) {
            edges.changingNothing(Edges::rich, "judge(1, " + first + ")", x -> x.judge(1, first));
            for (long second : steps) {
                long row = (first * 1000000 + second) * 1000000 + 700000;
                edges.changingNothing(Edges::rich, "judge(3, " + row + ")", x -> x.judge(3, row));
            }
        }
    }
}
