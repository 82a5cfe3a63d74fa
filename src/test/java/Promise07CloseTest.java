public final class Promise07CloseTest {
    public static void main(String[] args) {
        Due due = new Due();
        Shifts closing = new Shifts(due, false);
        for (int kind = 2; kind <= 5; kind++) {
            closing.changes(kind, 0, 1, 4, 6, 8, 10, 0);
            closing.changes(kind, 1, 2, 2, 8, 10, 0, 0);
            closing.changes(kind, 2, 3, 2, 4, 0, 0, 0);
            closing.changes(kind, 4, 1, 2, 4, 6, 8, 0);
            closing.changes(kind, 0, 4, 10, 0, 0, 0, 0);
            closing.changes(kind, 0, 5, 0, 0, 0, 0, 0);
            closing.takesNoPlaces(kind);
            closing.failsBeyond(kind);
        }
        closing.countsBlankPlaces();
        closing.failsOrIsRefused();

        SpliceBench x = Benches.with(5, 2, 4);
        x.show(0);
        x.close(0, 0, 1);
        due.is("the card went down", x.number(0, 0), 4);
        due.is("it is the same", x.shown(0, 0), 1);
        due.is("the last place is empty", x.sort(0, 1), 0);
        due.is("no card is made", x.count(7), 2);
        due.end();
    }
}
