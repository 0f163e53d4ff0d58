/** Counts answers that are not the due ones. */
final class Due {
    private final String test;
    private int wrong;
    private int seen;

    Due(String test) {
        this.test = test;
    }

    void is(String what, long got, long want) {
        seen++;
        if (got != want) {
            wrong++;
            System.out.println(test + ": " + what + " answered " + got + ", due is " + want);
        }
    }

    void yes(String what, boolean got) {
        is(what, got ? 1 : 0, 1);
    }

    void no(String what, boolean got) {
        is(what, got ? 1 : 0, 0);
    }

    void fail(String why) {
        wrong++;
        System.out.println(test + ": " + why);
    }

    int wrong() {
        return wrong;
    }

    int seen() {
        return seen;
    }

    void end() {
        System.out.println(test + ": " + seen + " answers, " + wrong + " wrong");
        if (wrong != 0 || seen == 0) {
            System.exit(1);
        }
    }
}
