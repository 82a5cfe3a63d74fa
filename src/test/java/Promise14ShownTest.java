public final class Promise14ShownTest {
    private static final Due due = new Due("Promise 14: shown");

    public static void main(String[] args) {
        howOften();
        none();
        refused();
        due.end();
    }

    private static void howOften() {
        due.sentence("How often the CARD there was SHOWN");
        for (int kind = 4; kind <= 5; kind++) {
            SpliceBench x = Benches.with(kind, 2, 4, 6, 8, 10);
            for (int times = 0; times <= 40; times++) {
                due.is("the first place", x.shown(0, 0), times);
                due.is("the last place", x.shown(0, 4), times);
                x.show(0);
            }
            x.put(0, 4, 10);
            due.is("a new card", x.shown(0, 4), 0);
        }
    }

    private static void none() {
        due.sentence("NONE when there is none.");
        SpliceBench x = Benches.filledOfAllKinds();
        for (int kind = 0; kind <= 3; kind++) {
            due.is("of kind " + kind, x.shown(kind, 0), -1);
        }
        for (int kind = 4; kind <= 5; kind++) {
            for (int i : Benches.NO_PLACES) {
                due.is("shown(" + kind + ", " + i + ")", x.shown(kind, i), -1);
            }
            x.put(kind, 2, 0);
            due.is("an empty place", x.shown(kind, 2), -1);
            x.hold(9, kind, 0);
            due.is("of no places", x.shown(9, 0), -1);
        }
    }

    private static void refused() {
        due.sentence("-9.");
        SpliceBench x = Benches.filledOfAllKinds();
        for (int s : Benches.NO_SPINDLES) {
            due.is("shown(" + s + ", 0)", x.shown(s, 0), -9);
            due.is("shown(" + s + ", -1)", x.shown(s, -1), -9);
        }
    }
}
