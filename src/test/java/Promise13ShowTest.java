public final class Promise13ShowTest {
    private static final Due due = new Due("Promise 13: show");

    public static void main(String[] args) {
        all();
        onceForEachPlace();
        howManyPlaces();
        noRack();
        refused();
        due.end();
    }

    private static void all() {
        due.sentence("All CARDS that stand in the RACK of spindle s are SHOWN");
        SpliceBench x = Benches.with(4, 1, 2, 0, 3);
        x.hold(1, 5, 2);
        x.move(0, 1, 1, 0, 1);
        due.is("a rack of slides", x.show(1), 1);
        due.is("the slide was shown", x.shown(0, 1), 1);
        due.is("a plain card of another rack was not", x.shown(0, 0), 0);
        due.is("a rack of cards", x.show(0), 3);
        due.is("the first place", x.shown(0, 0), 1);
        due.is("the last place", x.shown(0, 3), 1);
        due.is("the slide once more", x.shown(1, 0), 2);
        x.thread(2, 0);
        x.show(2);
        due.is("by another spindle", x.shown(0, 0), 2);
    }

    private static void onceForEachPlace() {
        due.sentence("once for each place in which they stand");
        for (int kind = 4; kind <= 5; kind++) {
            SpliceBench x = Benches.with(kind, 2, 0, 4, 0);
            x.move(0, 0, 0, 1, 1);
            x.move(0, 0, 0, 3, 1);
            due.is("three places of one card, one of another", x.show(0), 4);
            due.is("the one", x.shown(0, 0), 3);
            due.is("the one, elsewhere", x.shown(0, 3), 3);
            due.is("the other", x.shown(0, 2), 1);
            x.put(0, 0, 0);
            x.show(0);
            due.is("two places are left", x.shown(0, 1), 5);
            Benches.fill(x, 1, kind, 6);
            x.move(0, 1, 1, 0, 1);
            x.show(0);
            due.is("not for its places in other racks", x.shown(0, 1), 7);
        }
    }

    private static void howManyPlaces() {
        due.sentence("in how many places");
        for (int kind = 4; kind <= 5; kind++) {
            SpliceBench x = new SpliceBench();
            x.hold(0, kind, 0);
            due.is("a rack of no places", x.show(0), 0);
            x.hold(0, kind, 80);
            due.is("an empty rack", x.show(0), 0);
            for (int i = 0; i < 80; i++) {
                x.put(0, i, 2);
            }
            due.is("a full rack", x.show(0), 80);
            due.is("its last card", x.shown(0, 79), 1);
            x.put(0, 79, 0);
            due.is("one is gone", x.show(0), 79);
        }
    }

    private static void noRack() {
        due.sentence("NONE when it holds no RACK.");
        SpliceBench x = Benches.filledOfAllKinds();
        String before = Benches.look(x);
        for (int kind = 0; kind <= 3; kind++) {
            due.is("show(" + kind + ")", x.show(kind), -1);
        }
        due.unchanged("no rack", x, before);
    }

    private static void refused() {
        due.sentence("-9.");
        SpliceBench x = Benches.filledOfAllKinds();
        String before = Benches.look(x);
        for (int s : Benches.NO_SPINDLES) {
            due.is("show(" + s + ")", x.show(s), -9);
        }
        due.unchanged("refused", x, before);
    }
}
