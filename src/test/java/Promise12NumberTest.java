public final class Promise12NumberTest {
    private static final Due due = new Due("Promise 12: number");

    public static void main(String[] args) {
        there();
        labels();
        others();
        noSpindle();
        due.end();
    }

    private static void there() {
        due.sentence("The number there, a CARD's NUMBER");
        SpliceBench x = Benches.ofAllKinds();
        long wide = -0x123456789ABCDEEL;
        for (int kind = 2; kind <= 5; kind++) {
            x.put(kind, 0, 6);
            x.put(kind, 4, wide);
            due.is("the first place", x.number(kind, 0), 6);
            due.is("the last place", x.number(kind, 4), kind == 2 ? (int) wide : wide);
        }
        x.put(4, 1, wide - 1);
        due.is("a plain card's", x.number(4, 1), wide - 1);
        x.put(4, 1, Long.MAX_VALUE);
        due.is("the greatest", x.number(4, 1), Long.MAX_VALUE);
        x.put(4, 1, Long.MIN_VALUE);
        due.is("the least", x.number(4, 1), Long.MIN_VALUE);
    }

    private static void labels() {
        due.sentence("of a LABEL its number, whatever i is");
        SpliceBench x = Benches.ofAllKinds();
        for (int n : new int[] {77, 0, -1, Benches.MIN, Benches.MAX}) {
            x.hold(1, 1, n);
            for (int i : Benches.ANY_NUMBERS) {
                due.is("number(1, " + i + ")", x.number(1, i), n);
            }
        }
    }

    private static void others() {
        due.sentence("0 for all others");
        SpliceBench x = Benches.filledOfAllKinds();
        for (int i : Benches.ANY_NUMBERS) {
            due.is("of nothing: number(0, " + i + ")", x.number(0, i), 0);
        }
        for (int kind = 2; kind <= 5; kind++) {
            for (int i : Benches.NO_PLACES) {
                due.is("no place: number(" + kind + ", " + i + ")", x.number(kind, i), 0);
            }
            x.put(kind, 2, 0);
            due.is("a blank place", x.number(kind, 2), 0);
            x.hold(9, kind, 0);
            due.is("of no places", x.number(9, 0), 0);
        }
    }

    private static void noSpindle() {
        due.sentence("(also of a spindle that there is not)");
        SpliceBench x = Benches.filledOfAllKinds();
        for (int s : Benches.NO_SPINDLES) {
            due.is("number(" + s + ", 0)", x.number(s, 0), 0);
            due.is("number(" + s + ", -1)", x.number(s, -1), 0);
        }
    }
}
