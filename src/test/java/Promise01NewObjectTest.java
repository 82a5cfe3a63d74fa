public final class Promise01NewObjectTest {
    public static void main(String[] args) {
        Due due = new Due();
        SpliceBench x = new SpliceBench();
        for (int s = 0; s < 10; s++) {
            due.is("a new object: held(" + s + ", 0)", x.held(s, 0), 0);
            due.is("a new object: held(" + s + ", 1)", x.held(s, 1), 0);
            due.is("a new object: held(" + s + ", 2)", x.held(s, 2), 0);
            due.is("a new object: sort(" + s + ", 0)", x.sort(s, 0), -1);
            due.is("a new object: same with itself", x.same(s, -1, s, -1), 0);
        }
        for (int what = 0; what <= 8; what++) {
            due.is("a new object: count(" + what + ")", x.count(what), 0);
        }
        due.is("a new object: back()", x.back(), 0);

        x.hold(0, 2, 3);
        SpliceBench y = new SpliceBench();
        due.is("two objects share nothing: held", y.held(0, 0), 0);
        due.is("two objects share nothing: count", y.count(6), 0);
        due.is("NONE", SpliceBench.NONE, -1);
        due.end();
    }
}
