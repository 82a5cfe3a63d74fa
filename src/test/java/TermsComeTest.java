/** What the terms say of COME. */
public final class TermsComeTest {
    private static final Due due = new Due("Terms");

    public static void main(String[] args) {
        latest();
        refused();
        allOfN();
        byWrong();
        byOtherFailures();
        due.end();
    }

    private static void latest() {
        due.sentence("COME: how many places came by the latest MOTION, GAP or CLOSING");
        SpliceBench x = Benches.with(3, 2, 7, 4, 5, 6);
        x.move(0, 0, 0, 1, 4);
        due.is("by a motion", x.count(0), 4);
        x.open(0, 0, 2);
        due.is("by a gap", x.count(0), 3);
        x.close(0, 1, 3);
        due.is("by a closing", x.count(0), 1);
        x.move(0, 0, 0, 1, 2);
        due.is("by a motion again", x.count(0), 2);
        x.hold(1, 3, 3);
        x.thread(2, 0);
        x.put(0, 0, 1);
        x.put(0, 5, 1);
        x.show(0);
        x.back();
        x.back();
        due.is("not by other calls", x.count(0), 2);
    }

    private static void refused() {
        due.sentence("that was not refused");
        SpliceBench x = Benches.with(3, 2, 7, 4, 5);
        x.move(0, 0, 0, 1, 3);
        for (int s : Benches.NO_SPINDLES) {
            x.move(s, 0, 0, 0, 1);
            due.is("a motion from spindle " + s, x.count(0), 3);
            x.move(0, 0, s, 0, 1);
            due.is("a motion to spindle " + s, x.count(0), 3);
            x.open(s, 0, 0);
            due.is("a gap on spindle " + s, x.count(0), 3);
            x.close(s, 0, 0);
            due.is("a closing on spindle " + s, x.count(0), 3);
        }
    }

    private static void allOfN() {
        due.sentence("(all n");
        for (int kind = 2; kind <= 5; kind++) {
            SpliceBench x = Benches.with(kind, 2, 0, 0, 4);
            for (int n = 4; n >= 0; n--) {
                x.move(0, 0, 0, 0, n);
                due.is("of " + n + " places, blank ones too", x.count(0), n);
            }
        }
    }

    private static void byWrong() {
        due.sentence("or those by 4");
        SpliceBench x = Benches.with(4, 0, 2, 0, 7, 4);
        x.hold(1, 5, 5);
        x.move(0, 0, 1, 0, 5);
        due.is("ahead of the plain card, blank ones too", x.count(0), 3);
        x.move(0, 3, 1, 0, 2);
        due.is("none", x.count(0), 0);
        x.move(0, 2, 1, 0, 2);
        due.is("one", x.count(0), 1);
    }

    private static void byOtherFailures() {
        due.sentence("by 1 to 3 none)");
        SpliceBench x = Benches.filledOfAllKinds();
        for (int failing = 0; failing <= 2; failing++) {
            // Spindle 0 holds nothing, 1 a label, and place 6 is beyond all places.
            int s = failing == 2 ? 4 : failing;
            x.move(4, 0, 4, 0, 2);
            due.is("the motion fails", x.move(4, 6, s, 0, 1), -1 - failing);
            due.is("none by a motion", x.count(0), 0);
            x.move(4, 0, 4, 0, 2);
            due.is("the gap fails", x.open(s, 6, 1), -1 - failing);
            due.is("none by a gap", x.count(0), 0);
            x.move(4, 0, 4, 0, 2);
            due.is("the closing fails", x.close(s, 6, 1), -1 - failing);
            due.is("none by a closing", x.count(0), 0);
        }
    }
}
