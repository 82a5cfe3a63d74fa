public final class Promise15SameTest {
    private static final Due due = new Due();

    public static void main(String[] args) {
        cards();
        numbersAreNoCards();
        things();
        refused();
        due.end();
    }

    private static void cards() {
        SpliceBench x = Benches.with(4, 2, 2, 0, 0);
        x.hold(1, 5, 3);
        x.move(0, 0, 1, 2, 1);
        due.is("a card with itself", x.same(0, 0, 0, 0), 1);
        due.is("a card in another rack", x.same(0, 0, 1, 2), 1);
        due.is("the other way round", x.same(1, 2, 0, 0), 1);
        due.is("two cards of one number", x.same(0, 0, 0, 1), 0);
        due.is("two empty places", x.same(0, 2, 0, 3), 0);
        due.is("one empty place with itself", x.same(0, 2, 0, 2), 0);
        due.is("a card and an empty place", x.same(0, 0, 0, 2), 0);
        for (int i : new int[] {4, Benches.MAX}) {
            due.is("a card and no such place", x.same(0, 0, 1, i), 0);
            due.is("no such places", x.same(0, i, 0, i), 0);
        }
        for (int i : new int[] {-1, Benches.MIN}) {
            due.is("i below 0 alone", x.same(0, i, 0, 0), 0);
            due.is("j below 0 alone", x.same(0, 0, 0, i), 0);
        }
    }

    private static void numbersAreNoCards() {
        SpliceBench x = Benches.ofAllKinds();
        x.put(2, 0, 6);
        x.put(3, 0, 6);
        for (int kind = 0; kind <= 3; kind++) {
            due.is("no card of kind " + kind, x.same(kind, 0, kind, 0), 0);
        }
    }

    private static void things() {
        SpliceBench x = Benches.ofAllKinds();
        for (int kind = 1; kind <= 5; kind++) {
            x.thread(9, kind);
            due.is("one thing with itself", x.same(kind, -1, kind, -1), 1);
            due.is("one thing on two spindles", x.same(9, -1, kind, Benches.MIN), 1);
            due.is("another thing", x.same(9, -1, kind - 1, -1), 0);
            x.hold(9, kind, kind == 1 ? 77 : 5);
            due.is("one that is like it", x.same(9, -1, kind, -1), 0);
        }
        due.is("nothing", x.same(0, -1, 0, -1), 0);
        due.is("nothing twice", x.same(0, -1, 8, -1), 0);
        x.thread(8, 0);
        due.is("nothing threaded", x.same(0, -1, 8, -1), 0);
    }

    private static void refused() {
        SpliceBench x = Benches.with(4, 1);
        for (int s : Benches.NO_SPINDLES) {
            due.is("no first spindle", x.same(s, 0, 0, 0), -9);
            due.is("no second spindle", x.same(0, -1, s, -1), -9);
            due.is("neither", x.same(s, 0, s, -1), -9);
        }
    }
}
