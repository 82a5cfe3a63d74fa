/** What the terms say of a CLOSING. */
public final class TermsClosingTest {
    private static final Due due = new Due("Terms");
    private static final Shifts closing = new Shifts(due, false);

    public static void main(String[] args) {
        due.sentence("A CLOSING: FAILS likewise");
        closing.failsByMissing();
        closing.failsByLabel();
        closing.failsBelowZero();
        closing.failsAbove();
        goesDown();
        blanks();
        due.end();
    }

    private static void goesDown() {
        due.sentence("else what stands n places and more above the place goes n places down "
            + "(so many COME)");
        for (int kind = 2; kind <= 5; kind++) {
            closing.changes(kind, 0, 1, 4, 6, 8, 10, 0);
            closing.changes(kind, 1, 2, 2, 8, 10, 0, 0);
            closing.changes(kind, 2, 3, 2, 4, 0, 0, 0);
            closing.changes(kind, 4, 1, 2, 4, 6, 8, 0);
            closing.changes(kind, 0, 4, 10, 0, 0, 0, 0);
            closing.changes(kind, 0, 5, 0, 0, 0, 0, 0);
            for (int i = 0; i <= 5; i++) {
                closing.changes(kind, i, 0, 2, 4, 6, 8, 10);
            }
        }
        closing.countsBlankPlaces();

        SpliceBench x = Benches.with(5, 2, 4);
        x.show(0);
        x.close(0, 0, 1);
        due.is("the card went down", x.number(0, 0), 4);
        due.is("it is the same card", x.shown(0, 0), 1);
        due.is("no card is made", x.count(7), 2);
    }

    private static void blanks() {
        due.sentence("and the last n places are BLANK");
        for (int kind = 2; kind <= 5; kind++) {
            closing.blanks(kind, 0, 0, 5);
            closing.blanks(kind, 1, 2, 3);
            closing.blanks(kind, 0, 5, 0);
            closing.blanks(kind, 4, 1, 4);
        }
    }
}
