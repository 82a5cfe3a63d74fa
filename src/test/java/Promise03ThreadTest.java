public final class Promise03ThreadTest {
    private static final Due due = new Due("Promise 3: thread");

    public static void main(String[] args) {
        holdsWhatIsHeld();
        holdsNothing();
        fromItself();
        refused();
        due.end();
    }

    private static void holdsWhatIsHeld() {
        due.sentence("Spindle s holds what spindle from holds: its KIND.");
        SpliceBench x = Benches.filledOfAllKinds();
        for (int kind = 5; kind >= 1; kind--) {
            due.is("thread(9, " + kind + ")", x.thread(9, kind), kind);
            due.is("its kind", x.held(9, 0), kind);
            due.is("it is the same", x.same(9, -1, kind, -1), 1);
            due.is("its number", x.number(9, 0), kind == 1 ? 77 : 2 * kind);
        }
        due.is("nothing is made", x.count(6), 4);
        x.thread(0, 9);
        x.hold(9, 2, 1);
        due.is("through another spindle", x.same(0, -1, 1, -1), 1);
    }

    private static void holdsNothing() {
        due.sentence("holds what spindle from holds");
        SpliceBench x = Benches.filledOfAllKinds();
        for (int s = 0; s <= 5; s++) {
            due.is("thread(" + s + ", 9)", x.thread(s, 9), 0);
            due.is("its kind", x.held(s, 0), 0);
        }
        due.is("what was taken off is still covered", x.back(), 1);
    }

    private static void fromItself() {
        due.sentence("Spindle s holds what spindle from holds");
        SpliceBench x = Benches.filledOfAllKinds();
        String before = Benches.look(x);
        for (int s = 0; s <= 5; s++) {
            due.is("thread(" + s + ", " + s + ")", x.thread(s, s), s);
        }
        due.unchanged("from itself", x, before);
    }

    private static void refused() {
        due.sentence("-9.");
        SpliceBench x = Benches.filledOfAllKinds();
        String before = Benches.look(x);
        for (int s : Benches.NO_SPINDLES) {
            due.is("thread(" + s + ", 4)", x.thread(s, 4), -9);
            due.is("thread(4, " + s + ")", x.thread(4, s), -9);
            due.is("thread(" + s + ", " + s + ")", x.thread(s, s), -9);
            due.is("thread(" + s + ", 0)", x.thread(s, 0), -9);
        }
        due.unchanged("refused", x, before);
    }
}
