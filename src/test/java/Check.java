/** Counts answers that are not as due; every test of the project ends with {@link #end}. */
final class Check {
    private final String name;
    private int asked;
    private int wrong;

    Check(String name) {
        this.name = name;
    }

    void due(String call, long got, long want) {
        asked++;
        if (got != want) {
            wrong++;
            if (wrong <= 40) {
                System.out.println(name + ": " + call + " answered " + got + ", due is " + want);
            }
        }
    }

    void holds(String what, boolean so) {
        due(what, so ? 1 : 0, 1);
    }

    int wrong() {
        return wrong;
    }

    void end() {
        System.out.println(name + ": " + asked + " answers, " + wrong + " not as due");
        if (wrong != 0 || asked == 0) {
            System.exit(1);
        }
    }

    /** An object that has read this text as its hoard; the text stays in it. */
    static CommonUnits of(String text) {
        CommonUnits units = new CommonUnits();
        type(units, text);
        if (units.hoard() < 0) {
            throw new IllegalStateException("no hoard: " + text);
        }
        return units;
    }

    static void type(CommonUnits units, String text) {
        units.wipe();
        for (int k = 0; k < text.length(); k++) {
            units.write(text.charAt(k));
        }
    }
}
