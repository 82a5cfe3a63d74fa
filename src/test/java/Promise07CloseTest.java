public final class Promise07CloseTest {
    private static final Due due = new Due("Promise 7: close");

    public static void main(String[] args) {
        Shifts closing = new Shifts(due, false);
        due.sentence("A CLOSING of n places at place i of what spindle s holds");
        for (int kind = 2; kind <= 5; kind++) {
            closing.changes(kind, 0, 2, 6, 8, 10, 0, 0);
            closing.changes(kind, 1, 1, 2, 6, 8, 10, 0);
            closing.changes(kind, 0, 5, 0, 0, 0, 0, 0);
            closing.changes(kind, 5, 0, 2, 4, 6, 8, 10);
            everySize(kind);
        }
        failures();
        due.sentence("likewise.");
        closing.refused();
        due.end();
    }

    private static void everySize(int kind) {
        SpliceBench x = new SpliceBench();
        x.hold(9, kind, 80);
        for (int n = 0; n <= 80; n++) {
            due.is("close(9, 0, " + n + ")", x.close(9, 0, n), 1);
            due.is("so many come", x.count(0), 80 - n);
            due.is("close(9, " + (80 - n) + ", " + n + ")", x.close(9, 80 - n, n), 1);
            due.is("none come", x.count(0), 0);
        }
    }

    private static void failures() {
        due.sentence("likewise.");
        SpliceBench x = Benches.filledOfAllKinds();
        due.is("of nothing", x.close(0, 0, 0), -1);
        due.is("of a label", x.close(1, 0, 0), -2);
        for (int kind = 2; kind <= 5; kind++) {
            due.is("a place below 0", x.close(kind, -1, 1), -3);
            due.is("n below 0", x.close(kind, 1, -1), -3);
            due.is("above the places", x.close(kind, 3, 3), -3);
            due.is("a wrap-around", x.close(kind, 1, Benches.MAX), -3);
        }
        due.is("none of them is counted as fine", x.count(5), 1);
    }
}
