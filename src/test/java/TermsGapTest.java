/** What the terms say of a GAP. */
public final class TermsGapTest {
    private static final Due due = new Due("Terms");
    private static final Shifts gap = new Shifts(due, true);

    public static void main(String[] args) {
        due.sentence("A GAP of n places at a place of what a spindle holds: FAILS by 1");
        gap.failsByMissing();
        due.sentence("by 2 (a LABEL)");
        gap.failsByLabel();
        due.sentence("by 3: the place or n is below 0");
        gap.failsBelowZero();
        due.sentence("or both together are above the places that there are");
        gap.failsAbove();
        goesUp();
        hasNoRoom();
        blanks();
        due.end();
    }

    private static void goesUp() {
        due.sentence("Else what stands from the place on goes n places up, as far as it has room "
            + "(so many COME");
        for (int kind = 2; kind <= 5; kind++) {
            gap.changes(kind, 0, 1, 0, 2, 4, 6, 8);
            gap.changes(kind, 1, 2, 2, 0, 0, 4, 6);
            gap.changes(kind, 3, 1, 2, 4, 6, 0, 8);
            for (int i = 0; i <= 5; i++) {
                gap.changes(kind, i, 0, 2, 4, 6, 8, 10);
            }
        }
        gap.countsBlankPlaces();

        SpliceBench x = Benches.with(5, 2, 4);
        x.show(0);
        x.open(0, 0, 1);
        due.is("the card went up", x.number(0, 1), 2);
        due.is("it is the same card", x.shown(0, 1), 1);
        due.is("no card is made", x.count(7), 2);
    }

    private static void hasNoRoom() {
        due.sentence("what has none is gone)");
        for (int kind = 2; kind <= 5; kind++) {
            gap.changes(kind, 0, 4, 0, 0, 0, 0, 2);
            gap.changes(kind, 0, 5, 0, 0, 0, 0, 0);
            gap.changes(kind, 2, 3, 2, 4, 0, 0, 0);
            gap.changes(kind, 4, 1, 2, 4, 6, 8, 0);
            SpliceBench x = Benches.with(kind, 2, 4);
            x.open(0, 0, 1);
            x.close(0, 0, 1);
            due.row("a closing does not bring it again", x, 0, 2, 0);
        }
    }

    private static void blanks() {
        due.sentence("and the n places are BLANK");
        for (int kind = 2; kind <= 5; kind++) {
            gap.blanks(kind, 0, 0, 0);
            gap.blanks(kind, 1, 2, 1);
            gap.blanks(kind, 0, 5, 0);
            gap.blanks(kind, 4, 1, 4);
        }
    }
}
