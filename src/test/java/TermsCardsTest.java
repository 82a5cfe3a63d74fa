/** What the terms say of CARDS, and of what two spindles hold. */
public final class TermsCardsTest {
    private static final Due due = new Due("Terms");

    public static void main(String[] args) {
        numberAndShown();
        oneThing();
        sharedThings();
        sharedLabel();
        due.end();
    }

    private static void numberAndShown() {
        due.sentence("A CARD (a SLIDE, too) has a NUMBER, and how often it was SHOWN.");
        SpliceBench x = Benches.with(4, Long.MAX_VALUE, Long.MIN_VALUE, -1);
        due.row("64 bits", x, 0, Long.MAX_VALUE, Long.MIN_VALUE, -1);
        for (int times = 0; times <= 3; times++) {
            due.is("a plain card", x.shown(0, 0), times);
            due.is("a slide", x.shown(0, 1), times);
            x.show(0);
        }
    }

    private static void oneThing() {
        due.sentence("It is one thing wherever it stands: what goes to another place is the same "
            + "CARD, in both places then.");
        SpliceBench x = Benches.with(4, 2, 4);
        x.hold(1, 5, 2);
        x.move(0, 0, 1, 1, 1);
        due.is("the same card", x.same(0, 0, 1, 1), 1);
        due.row("it stands where it stood", x, 0, 2, 4);
        x.show(0);
        due.is("shown here, shown there", x.shown(1, 1), 1);
        x.show(1);
        due.is("shown there, shown here", x.shown(0, 0), 2);
        due.is("no card is made", x.count(7), 2);
        x.put(0, 0, 6);
        due.is("another card here, not there", x.number(1, 1), 2);
        x.hold(0, 0, 0);
        due.is("taken off here, not there", x.shown(1, 1), 2);
    }

    private static void sharedThings() {
        due.sentence("Two spindles may hold the same LABEL, STRIP or RACK: what is done to it by "
            + "one is seen by the other.");
        for (int kind = 2; kind <= 5; kind++) {
            SpliceBench x = Benches.with(kind, 2, 4, 6);
            x.thread(1, 0);
            x.put(1, 1, 8);
            due.row("put", x, 0, 2, 8, 6);
            x.open(0, 0, 1);
            due.row("a gap", x, 1, 0, 2, 8);
            x.back();
            due.row("back", x, 1, 2, 8, 6);
            x.close(1, 0, 1);
            due.row("a closing", x, 0, 8, 6, 0);
            x.back();
            x.move(0, 0, 1, 1, 2);
            due.row("a motion from one to the other", x, 0, 2, 2, 8);
            due.row("the same motion", x, 1, 2, 2, 8);
            x.show(1);
            due.is("show", x.shown(0, 2), kind <= 3 ? -1 : 1);
        }
    }

    private static void sharedLabel() {
        due.sentence("Two spindles may hold the same LABEL");
        SpliceBench x = Benches.ofAllKinds();
        x.thread(9, 1);
        x.put(9, 0, 12);
        due.is("put by one", x.number(1, 0), 12);
        x.put(1, 0, 13);
        due.is("put by the other", x.number(9, 0), 13);
        x.hold(1, 1, 14);
        due.is("a new label on one", x.number(9, 0), 13);
    }
}
