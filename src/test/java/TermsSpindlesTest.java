/** What the terms say of SPINDLES and KINDS. */
public final class TermsSpindlesTest {
    private static final Due due = new Due("Terms");

    public static void main(String[] args) {
        ten();
        nothingAtFirst();
        labels();
        kinds();
        due.end();
    }

    private static void ten() {
        due.sentence("SPINDLES are 0 .. 9.");
        SpliceBench x = new SpliceBench();
        for (int s = 0; s <= 9; s++) {
            due.is("hold(" + s + ", 3, " + (s + 1) + ")", x.hold(s, 3, s + 1), 1);
        }
        for (int s = 0; s <= 9; s++) {
            due.is("held(" + s + ", 1)", x.held(s, 1), s + 1);
        }
        for (int s : Benches.NO_SPINDLES) {
            due.is("hold(" + s + ", 3, 1)", x.hold(s, 3, 1), -9);
            due.is("held(" + s + ", 0)", x.held(s, 0), -9);
        }
    }

    private static void nothingAtFirst() {
        due.sentence("Each HOLDS, by KIND: 0 nothing (at first)");
        SpliceBench x = new SpliceBench();
        for (int s = 0; s <= 9; s++) {
            due.is("at first: held(" + s + ", 0)", x.held(s, 0), 0);
        }
        x.hold(9, 2, 1);
        x.hold(9, 0, 1);
        due.is("nothing again", x.held(9, 0), 0);
    }

    private static void labels() {
        due.sentence("1 a LABEL (a number of 32 bits)");
        SpliceBench x = new SpliceBench();
        for (int n : Benches.ANY_NUMBERS) {
            x.hold(0, 1, n);
            due.is("the kind of a label", x.held(0, 0), 1);
            due.is("a label's 32 bits", x.number(0, 0), n);
        }
        x.put(0, 0, 1L << 31);
        due.is("a label of 2 to the 31st", x.number(0, 0), Benches.MIN);
        x.put(0, 0, 1L << 32);
        due.is("a label of 2 to the 32nd", x.number(0, 0), 0);
    }

    private static void kinds() {
        due.sentence("2 a STRIP of PICTURES, 3 a STRIP of SOUND, 4 a RACK of CARDS, "
            + "5 a RACK of SLIDES");
        SpliceBench x = Benches.ofAllKinds();
        long odd = (1L << 32) + 1;
        int[] answers = {0, 0, 1, 1, 1, -4};
        long[] numbers = {0, 0, 1, odd, odd, 0};
        int[] sorts = {0, 0, 1, 1, 2, 0};
        int[] places = {0, 0, -1, -1, 1, 0};
        for (int kind = 2; kind <= 5; kind++) {
            due.is("kind " + kind, x.held(kind, 0), kind);
            due.is("an odd number to kind " + kind, x.put(kind, 0, odd), answers[kind]);
            due.is("its number", x.number(kind, 0), numbers[kind]);
            due.is("its sort", x.sort(kind, 0), sorts[kind]);
            due.is("show of kind " + kind, x.show(kind), places[kind]);
        }
    }
}
