public final class Promise09CountTest {
    private static final Due due = new Due();

    public static void main(String[] args) {
        each();
        comeIsTheLatest();
        others();
        due.end();
    }

    private static void each() {
        SpliceBench x = Benches.with(4, 2, 7, 4);
        x.hold(1, 5, 3);
        x.hold(2, 1, 9);
        x.move(9, 0, 0, 0, 1);
        x.open(9, 0, 1);
        x.close(9, 0, 1);
        x.close(2, 0, 1);
        x.move(2, 0, 0, 0, 1);
        x.open(0, 4, 0);
        x.close(0, 0, 4);
        x.move(0, 0, 1, 0, 4);
        x.open(0, 0, -1);
        x.move(0, 0, 1, 0, 3);
        all(x, 1, 3, 2, 4, 1, 0, 2, 3, 1);
        x.open(0, 0, 0);
        x.close(0, 1, 1);
        x.move(0, 0, 0, 0, 0);
        x.move(0, 0, 0, 0, 1);
        x.open(10, 0, 0);
        x.move(0, 0, 10, 0, 0);
        x.close(-1, 0, 0);
        all(x, 1, 3, 2, 4, 1, 4, 2, 3, 1);
        x.back();
        all(x, 1, 3, 2, 4, 1, 4, 2, 3, 0);
    }

    private static void all(SpliceBench x, long... want) {
        for (int what = 0; what < want.length; what++) {
            due.is("count(" + what + ")", x.count(what), want[what]);
        }
    }

    private static void comeIsTheLatest() {
        SpliceBench x = Benches.with(3, 2, 7, 4);
        x.move(0, 0, 0, 1, 2);
        due.is("COME by a motion", x.count(0), 2);
        x.hold(1, 3, 3);
        x.put(0, 0, 1);
        x.thread(2, 0);
        x.back();
        x.show(0);
        due.is("COME stays by other calls", x.count(0), 2);
        x.open(0, 0, 0);
        due.is("COME by a gap of no places", x.count(0), 3);
        x.close(0, 0, 2);
        due.is("COME by a closing", x.count(0), 1);
        x.close(9, 0, 1);
        due.is("COME by a failure", x.count(0), 0);
    }

    private static void others() {
        SpliceBench x = Benches.with(4, 2);
        for (int what : new int[] {-1, 9, 10, Benches.MIN, Benches.MAX}) {
            due.is("count(" + what + ")", x.count(what), -1);
        }
    }
}
