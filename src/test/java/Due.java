/** Prints every answer that is not the one that is due, and ends the test by it. */
final class Due {
    private static final int SHOWN_AT_MOST = 20;

    private int asked = 0;
    private int wrong = 0;

    void is(String call, long got, long want) {
        asked++;
        if (got == want) {
            return;
        }
        wrong++;
        if (wrong <= SHOWN_AT_MOST) {
            System.out.println(call + " answered " + got + ", due is " + want);
        }
    }

    /** The numbers of a spindle's first places. */
    void row(String what, SpliceBench x, int s, long... want) {
        for (int i = 0; i < want.length; i++) {
            is(what + ": number(" + s + ", " + i + ")", x.number(s, i), want[i]);
        }
    }

    boolean allRight() {
        return wrong == 0;
    }

    void end() {
        System.out.println(asked + " answers, " + wrong + " not as due");
        if (wrong != 0) {
            System.exit(1);
        }
    }
}
