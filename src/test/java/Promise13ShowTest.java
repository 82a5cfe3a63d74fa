public final class Promise13ShowTest {
    private static final Due due = new Due();

    public static void main(String[] args) {
        for (int kind = 4; kind <= 5; kind++) {
            SpliceBench x = Benches.with(kind, 2, 0, 4, 0);
            due.is("in how many places", x.show(0), 2);
            due.is("the first card", x.shown(0, 0), 1);
            due.is("the other card", x.shown(0, 2), 1);
            x.move(0, 0, 0, 1, 1);
            due.is("a card in two places", x.show(0), 3);
            due.is("is shown for each", x.shown(0, 0), 3);
            due.is("and is one card", x.shown(0, 1), 3);
            due.is("the other card once more", x.shown(0, 2), 2);
            x.put(0, 2, 0);
            due.is("a card that is gone is not shown", x.show(0), 2);
            x.hold(1, kind, 3);
            due.is("an empty rack", x.show(1), 0);
            x.hold(1, kind, 0);
            due.is("a rack of no places", x.show(1), 0);
        }
        plainAndElsewhere();
        noRacks();
        due.end();
    }

    private static void plainAndElsewhere() {
        SpliceBench x = Benches.with(4, 1, 2, 3);
        x.hold(1, 5, 2);
        x.move(0, 1, 1, 0, 1);
        due.is("the slide's rack", x.show(1), 1);
        due.is("the slide was shown", x.shown(0, 1), 1);
        due.is("the plain ones were not", x.shown(0, 0), 0);
        due.is("plain cards are shown, too", x.show(0), 3);
        due.is("a plain card", x.shown(0, 2), 1);
        due.is("the slide again", x.shown(1, 0), 2);
    }

    private static void noRacks() {
        SpliceBench x = Benches.ofAllKinds();
        x.put(2, 0, 5);
        for (int kind = 0; kind <= 3; kind++) {
            due.is("show of kind " + kind, x.show(kind), -1);
        }
        for (int s : Benches.NO_SPINDLES) {
            due.is("show of no spindle", x.show(s), -9);
        }
    }
}
