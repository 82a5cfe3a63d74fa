public final class Promise03ThreadTest {
    private static final Due due = new Due();

    public static void main(String[] args) {
        kinds();
        sharedThings();
        refused();
        due.end();
    }

    private static void kinds() {
        SpliceBench x = Benches.ofAllKinds();
        for (int kind = 5; kind >= 0; kind--) {
            due.is("thread answers the kind", x.thread(9, kind), kind);
            due.is("and holds it", x.held(9, 0), kind);
            due.is("the same", x.same(9, -1, kind, -1), kind == 0 ? 0 : 1);
        }
        due.is("to itself", x.thread(4, 4), 4);
        due.is("to itself: still there", x.held(4, 1), 5);
        due.is("nothing is made", x.count(6), 4);
    }

    private static void sharedThings() {
        SpliceBench x = Benches.with(1);
        x.thread(1, 0);
        x.put(1, 0, 12);
        due.is("a label's number is seen by the other", x.number(0, 0), 12);

        for (int kind = 2; kind <= 5; kind++) {
            x = Benches.with(kind, 2, 4, 6);
            x.thread(1, 0);
            x.put(1, 1, 8);
            due.row("put is seen by the other", x, 0, 2, 8, 6);
            x.open(0, 0, 1);
            due.row("a gap is seen by the other", x, 1, 0, 2, 8);
            x.back();
            due.row("back is seen by the one", x, 0, 2, 8, 6);
            due.row("back is seen by the other", x, 1, 2, 8, 6);
            x.move(0, 0, 1, 1, 2);
            due.row("a motion between both is one within a thing", x, 0, 2, 2, 8);
        }
    }

    private static void refused() {
        SpliceBench x = Benches.with(2, 4, 5);
        for (int s : Benches.NO_SPINDLES) {
            due.is("thread to no spindle", x.thread(s, 0), -9);
            due.is("thread from no spindle", x.thread(0, s), -9);
            due.is("thread among no spindles", x.thread(s, s), -9);
        }
        due.row("nothing changed", x, 0, 4, 5);
    }
}
