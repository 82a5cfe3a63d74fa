public final class Promise10HeldTest {
    private static final Due due = new Due();

    public static void main(String[] args) {
        SpliceBench x = Benches.ofAllKinds();
        for (int kind = 0; kind <= 5; kind++) {
            due.is("the kind", x.held(kind, 0), kind);
            due.is("the places", x.held(kind, 1), kind < 2 ? 0 : 5);
            due.is("the places that are not blank", x.held(kind, 2), 0);
            for (int what : new int[] {-1, 3, Benches.MIN, Benches.MAX}) {
                due.is("another what", x.held(kind, what), -1);
            }
        }
        filled();
        for (int s : Benches.NO_SPINDLES) {
            due.is("held of no spindle", x.held(s, 0), -9);
            due.is("held of no spindle, another what", x.held(s, 3), -9);
        }
        due.end();
    }

    private static void filled() {
        SpliceBench x = Benches.with(2, 0, -5, 1L << 32, 7, 0);
        due.is("pictures that are not 0", x.held(0, 2), 2);
        Benches.fill(x, 1, 3, 1L << 32, 0, -1, 5);
        due.is("sound that is not 0", x.held(1, 2), 3);
        Benches.fill(x, 2, 4, 1, 2, 0);
        due.is("places with cards", x.held(2, 2), 2);
        Benches.fill(x, 3, 5, 0, 2, 0, 4, 0);
        due.is("places with slides", x.held(3, 2), 2);
        x.move(3, 1, 3, 0, 1);
        due.is("each place of a card counts", x.held(3, 2), 3);
        x.put(3, 1, 0);
        due.is("an emptied one does not", x.held(3, 2), 2);
        x.hold(4, 1, 6);
        due.is("a label has none", x.held(4, 2), 0);
    }
}
