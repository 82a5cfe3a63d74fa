public final class Promise15SameTest {
    private static final Due due = new Due("Promise 15: same");

    public static void main(String[] args) {
        cards();
        noCards();
        oneBelowZero();
        things();
        nothing();
        refused();
        due.end();
    }

    private static void cards() {
        due.sentence("Whether two places have the same CARD (i and j not below 0)");
        SpliceBench x = Benches.with(4, 2, 2, 7, 7);
        x.hold(1, 5, 3);
        x.move(0, 0, 1, 2, 1);
        due.is("a card with itself", x.same(0, 0, 0, 0), 1);
        due.is("the last place with itself", x.same(0, 3, 0, 3), 1);
        due.is("a card in another rack", x.same(0, 0, 1, 2), 1);
        due.is("the other way round", x.same(1, 2, 0, 0), 1);
        due.is("two slides of one number", x.same(0, 0, 0, 1), 0);
        due.is("two plain cards of one number", x.same(0, 2, 0, 3), 0);
        due.is("a slide and a plain card", x.same(0, 0, 0, 2), 0);
        x.move(0, 2, 0, 3, 1);
        due.is("a plain card that came", x.same(0, 2, 0, 3), 1);
    }

    private static void noCards() {
        due.sentence("1, else 0.");
        SpliceBench x = Benches.filledOfAllKinds();
        x.put(4, 2, 0);
        x.put(4, 3, 0);
        due.is("a card and an empty place", x.same(4, 0, 4, 2), 0);
        due.is("two empty places", x.same(4, 2, 4, 3), 0);
        due.is("one empty place", x.same(4, 2, 4, 2), 0);
        for (int i : new int[] {5, 6, 80, Benches.MAX}) {
            due.is("a card and no such place", x.same(4, 0, 4, i), 0);
            due.is("no such place and a card", x.same(4, i, 4, 0), 0);
            due.is("one place that there is not", x.same(4, i, 4, i), 0);
        }
        for (int kind = 0; kind <= 3; kind++) {
            due.is("no cards of kind " + kind, x.same(kind, 0, kind, 0), 0);
            due.is("a card and kind " + kind, x.same(4, 0, kind, 0), 0);
        }
    }

    private static void oneBelowZero() {
        due.sentence("(i and j not below 0), or (i and j both below 0)");
        SpliceBench x = Benches.filledOfAllKinds();
        x.thread(9, 4);
        for (int below : new int[] {-1, Benches.MIN}) {
            due.is("i below 0 alone", x.same(4, below, 4, 0), 0);
            due.is("j below 0 alone", x.same(4, 0, 4, below), 0);
            due.is("i below 0 alone, two spindles", x.same(4, below, 9, 0), 0);
            due.is("j below 0 alone, two spindles", x.same(4, 0, 9, below), 0);
            due.is("j below 0 alone, of a label", x.same(1, 0, 1, below), 0);
        }
    }

    private static void things() {
        due.sentence("whether two spindles hold the same thing");
        SpliceBench x = Benches.ofAllKinds();
        for (int kind = 1; kind <= 5; kind++) {
            x.thread(9, kind);
            for (int below : new int[] {-1, -2, Benches.MIN}) {
                due.is("one spindle", x.same(kind, -1, kind, below), 1);
                due.is("two spindles", x.same(9, below, kind, -1), 1);
            }
            due.is("other things", x.same(9, -1, kind - 1, -1), 0);
            x.hold(9, kind, kind == 1 ? 77 : 5);
            due.is("a thing that is like it", x.same(9, -1, kind, -1), 0);
        }
    }

    private static void nothing() {
        due.sentence("not nothing");
        SpliceBench x = Benches.ofAllKinds();
        due.is("one spindle", x.same(0, -1, 0, -1), 0);
        due.is("two spindles", x.same(0, -1, 9, -1), 0);
        x.thread(9, 0);
        due.is("nothing threaded", x.same(0, -1, 9, -1), 0);
        x.hold(9, 0, 0);
        x.thread(8, 9);
        due.is("nothing held, and threaded", x.same(8, -1, 9, -1), 0);
        due.is("nothing and a label", x.same(0, -1, 1, -1), 0);
    }

    private static void refused() {
        due.sentence("-9.");
        SpliceBench x = Benches.filledOfAllKinds();
        for (int s : Benches.NO_SPINDLES) {
            for (int i = -1; i <= 0; i++) {
                due.is("no first spindle", x.same(s, i, 4, i), -9);
                due.is("no second spindle", x.same(4, i, s, i), -9);
                due.is("neither", x.same(s, i, s, i), -9);
            }
            due.is("no first spindle, i below 0 alone", x.same(s, -1, 4, 0), -9);
        }
    }
}
