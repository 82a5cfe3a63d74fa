public final class Promise02HoldTest {
    private static final Due due = new Due();

    public static void main(String[] args) {
        everyKind();
        sizes();
        labelsAndNothing();
        wrongKindsAndSpindles();
        takesOff();
        mostThatAreMade();
        due.end();
    }

    private static void everyKind() {
        for (int kind = 2; kind <= 5; kind++) {
            SpliceBench x = new SpliceBench();
            due.is("hold of a kind", x.hold(9, kind, 7), 1);
            due.is("its kind", x.held(9, 0), kind);
            due.is("its places", x.held(9, 1), 7);
            due.is("all blank", x.held(9, 2), 0);
            due.is("the first place's sort", x.sort(9, 0), kind <= 3 ? 1 : 0);
            due.is("the last place's sort", x.sort(9, 6), kind <= 3 ? 1 : 0);
            due.is("no place behind the last", x.sort(9, 7), -1);
            due.is("made", x.count(6), 1);
            due.is("the other spindles hold nothing", x.held(8, 0), 0);
        }
    }

    private static void sizes() {
        for (int kind = 2; kind <= 5; kind++) {
            SpliceBench x = new SpliceBench();
            due.is("no places", x.hold(0, kind, 0), 1);
            due.is("no places: held", x.held(0, 1), 0);
            due.is("80 places", x.hold(0, kind, 80), 1);
            due.is("80 places: held", x.held(0, 1), 80);
            for (int n : new int[] {81, -1, Benches.MIN, Benches.MAX}) {
                due.is("wrong size " + n, x.hold(0, kind, n), 0);
            }
            due.is("wrong sizes change nothing", x.held(0, 1), 80);
            due.is("wrong sizes make nothing", x.count(6), 2);
        }
    }

    private static void labelsAndNothing() {
        SpliceBench x = new SpliceBench();
        for (int n : new int[] {0, 5, -1, 81, Benches.MIN, Benches.MAX}) {
            due.is("a label of any number", x.hold(0, 1, n), 1);
            due.is("its kind", x.held(0, 0), 1);
            due.is("its number", x.number(0, 0), n);
            due.is("nothing, whatever n is", x.hold(0, 0, n), 1);
            due.is("nothing: its kind", x.held(0, 0), 0);
            due.is("nothing: no number", x.number(0, 0), 0);
        }
        due.is("labels and nothing are not made strips or racks", x.count(6), 0);
    }

    private static void wrongKindsAndSpindles() {
        SpliceBench x = Benches.with(2, 4, 5);
        for (int kind : new int[] {-1, 6, Benches.MIN, Benches.MAX}) {
            due.is("hold of no kind", x.hold(0, kind, 1), 0);
        }
        for (int s : Benches.NO_SPINDLES) {
            due.is("hold on no spindle", x.hold(s, 2, 1), -9);
            due.is("hold on no spindle, of no kind", x.hold(s, 6, 81), -9);
        }
        due.row("nothing changed", x, 0, 4, 5);
        due.is("nothing made", x.count(6), 1);
    }

    private static void takesOff() {
        SpliceBench x = Benches.with(2, 4, 5);
        x.thread(1, 0);
        due.is("hold anew", x.hold(0, 2, 2), 1);
        due.row("the new one is blank", x, 0, 0, 0);
        due.row("the old one stays elsewhere", x, 1, 4, 5);
        due.is("they are not the same", x.same(0, -1, 1, -1), 0);
    }

    /** More than 512 calls, which the document leaves free: what this program does then. */
    private static void mostThatAreMade() {
        SpliceBench x = new SpliceBench();
        for (int k = 0; k < 600; k++) {
            due.is("one of 600", x.hold(k % 10, 2 + k % 4, 1), 1);
        }
        for (int kind = 0; kind <= 5; kind++) {
            due.is("behind 600", x.hold(3, kind, 2), 0);
        }
        due.is("behind 600: made", x.count(6), 600);
        due.is("behind 600: nothing changed", x.held(3, 1), 1);
        due.is("behind 600: no spindle", x.hold(10, 2, 2), -9);
    }
}
