public final class Promise09CountTest {
    private static final Due due = new Due("Promise 9: count");

    public static void main(String[] args) {
        come();
        failed();
        didNotFail();
        made();
        cards();
        covered();
        others();
        due.end();
    }

    private static void come() {
        due.sentence("what = 0 COME (0 before any)");
        SpliceBench x = new SpliceBench();
        due.is("at first", x.count(0), 0);
        Benches.fill(x, 0, 3, 2, 4, 6);
        x.thread(1, 0);
        x.back();
        x.move(10, 0, 0, 0, 1);
        due.is("before any that was not refused", x.count(0), 0);
        x.move(0, 0, 0, 1, 2);
        due.is("behind a motion", x.count(0), 2);
        x.open(0, 0, 0);
        due.is("behind a gap of no places", x.count(0), 3);
        x.close(0, 2, 1);
        due.is("behind a closing of the last place", x.count(0), 0);
    }

    private static void failed() {
        due.sentence("1 to 4 how many MOTIONS, GAPS and CLOSINGS FAILED so");
        SpliceBench x = Benches.filledOfAllKinds();
        x.move(0, 0, 2, 0, 1);
        failures(x, 1, 0, 0, 0);
        x.open(0, 0, 1);
        failures(x, 2, 0, 0, 0);
        x.close(0, 0, 1);
        failures(x, 3, 0, 0, 0);
        x.move(1, 0, 2, 0, 1);
        x.move(2, 0, 4, 0, 1);
        x.open(1, 0, 1);
        x.close(1, 0, 1);
        failures(x, 3, 4, 0, 0);
        x.move(2, 6, 2, 0, 0);
        x.open(2, 6, 0);
        x.open(2, 0, -1);
        x.open(2, 0, 6);
        x.close(2, 6, 0);
        failures(x, 3, 4, 5, 0);
        x.move(4, 0, 5, 0, 2);
        x.move(4, 1, 5, 0, 2);
        failures(x, 3, 4, 5, 2);
        x.move(4, 0, 4, 0, 2);
        x.put(0, 0, 1);
        x.put(5, 5, 1);
        x.put(5, 0, 1);
        x.move(10, 0, 0, 0, 1);
        x.back();
        failures(x, 3, 4, 5, 2);
    }

    private static void failures(SpliceBench x, long... want) {
        for (int k = 0; k < want.length; k++) {
            due.is("count(" + (k + 1) + ")", x.count(k + 1), want[k]);
        }
    }

    private static void didNotFail() {
        due.sentence("5 how many did not (those that were refused are none)");
        SpliceBench x = Benches.ofAllKinds();
        x.put(4, 0, 7);
        due.is("none at first", x.count(5), 0);
        x.move(2, 0, 2, 1, 2);
        x.move(2, 0, 2, 1, 0);
        x.open(3, 0, 0);
        x.close(3, 5, 0);
        due.is("of no places, too", x.count(5), 4);
        x.move(0, 0, 2, 0, 1);
        x.move(1, 0, 2, 0, 1);
        x.move(2, 6, 2, 0, 0);
        x.move(4, 0, 5, 0, 1);
        due.is("not those that failed", x.count(5), 4);
        for (int s : Benches.NO_SPINDLES) {
            x.move(s, 0, 2, 0, 1);
            x.move(2, 0, s, 0, 1);
            x.open(s, 0, 1);
            x.close(s, 0, 1);
        }
        due.is("not those that were refused", x.count(5), 4);
        x.back();
        due.is("not back()", x.count(5), 4);
    }

    private static void made() {
        due.sentence("6 STRIPS and RACKS made");
        SpliceBench x = new SpliceBench();
        due.is("none at first", x.count(6), 0);
        for (int kind = 0; kind <= 5; kind++) {
            x.hold(0, kind, 0);
            due.is("behind kind " + kind, x.count(6), kind < 2 ? 0 : kind - 1);
        }
        x.hold(0, 5, 81);
        x.hold(0, 6, 1);
        x.hold(10, 2, 1);
        x.thread(1, 0);
        x.hold(0, 0, 0);
        due.is("not by others, nor less by one taken off", x.count(6), 4);
    }

    private static void cards() {
        due.sentence("7 CARDS that came by put()");
        SpliceBench x = Benches.ofAllKinds();
        due.is("none at first", x.count(7), 0);
        x.put(4, 0, 1);
        x.put(4, 0, 2);
        x.put(5, 0, 2);
        due.is("plain ones and slides, one at another's place too", x.count(7), 3);
        x.put(4, 0, 0);
        x.put(4, 1, 0);
        x.put(4, 5, 1);
        x.put(5, 1, 1);
        x.put(2, 0, 1);
        x.put(3, 0, 1);
        x.put(1, 0, 1);
        x.put(0, 0, 1);
        x.put(10, 0, 1);
        due.is("not by others", x.count(7), 3);
        x.move(5, 0, 4, 0, 5);
        x.back();
        due.is("not by motions and back()", x.count(7), 3);
    }

    private static void covered() {
        due.sentence("8 1 if something is COVERED, else 0");
        for (int kind = 2; kind <= 5; kind++) {
            SpliceBench x = Benches.with(kind, 2, 4);
            due.is("at first", x.count(8), 0);
            x.move(0, 0, 0, 0, 0);
            due.is("behind a motion of no places", x.count(8), 0);
            x.move(0, 0, 0, 1, 1);
            due.is("behind a motion", x.count(8), 1);
            x.move(0, 0, 0, 1, 1);
            due.is("behind another one", x.count(8), 1);
            x.back();
            due.is("behind back()", x.count(8), 0);
            x.open(0, 2, 0);
            due.is("behind a gap", x.count(8), 1);
            x.back();
            x.close(0, 2, 0);
            due.is("behind a closing", x.count(8), 1);
        }
    }

    private static void others() {
        due.sentence("NONE for others.");
        SpliceBench x = Benches.filledOfAllKinds();
        for (int what : new int[] {-1, 9, 10, Benches.MIN, Benches.MAX}) {
            due.is("count(" + what + ")", x.count(what), -1);
        }
    }
}
