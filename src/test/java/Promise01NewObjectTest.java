public final class Promise01NewObjectTest {
    private static final Due due = new Due("Promise 1: A new object");

    public static void main(String[] args) {
        allHoldNothing();
        everyNewOne();
        due.end();
    }

    private static void allHoldNothing() {
        due.sentence("All spindles hold nothing.");
        SpliceBench x = new SpliceBench();
        for (int s = 0; s <= 9; s++) {
            due.is("held(" + s + ", 0)", x.held(s, 0), 0);
            due.is("held(" + s + ", 1)", x.held(s, 1), 0);
            due.is("held(" + s + ", 2)", x.held(s, 2), 0);
            due.is("sort(" + s + ", 0)", x.sort(s, 0), -1);
            due.is("number(" + s + ", 0)", x.number(s, 0), 0);
            due.is("show(" + s + ")", x.show(s), -1);
            due.is("shown(" + s + ", 0)", x.shown(s, 0), -1);
            due.is("same(" + s + ", -1, 0, -1)", x.same(s, -1, 0, -1), 0);
            due.is("put(" + s + ", 0, 2)", x.put(s, 0, 2), -1);
        }
        for (int what = 0; what <= 8; what++) {
            due.is("count(" + what + ")", x.count(what), 0);
        }
        due.is("back()", x.back(), 0);
        due.is("NONE", SpliceBench.NONE, -1);
    }

    private static void everyNewOne() {
        due.sentence("All spindles hold nothing.");
        SpliceBench x = Benches.filledOfAllKinds();
        SpliceBench y = new SpliceBench();
        for (int s = 0; s <= 9; s++) {
            due.is("another object's held(" + s + ", 0)", y.held(s, 0), 0);
        }
        for (int what = 0; what <= 8; what++) {
            due.is("another object's count(" + what + ")", y.count(what), 0);
        }
        due.is("the one is as it was", x.held(5, 0), 5);
    }
}
