public final class Promise10HeldTest {
    private static final Due due = new Due("Promise 10: held");

    public static void main(String[] args) {
        kind();
        places();
        notBlank();
        anotherWhat();
        refused();
        due.end();
    }

    private static void kind() {
        due.sentence("its KIND (what 0)");
        SpliceBench x = Benches.ofAllKinds();
        for (int kind = 0; kind <= 5; kind++) {
            due.is("held(" + kind + ", 0)", x.held(kind, 0), kind);
        }
        due.is("held(9, 0)", x.held(9, 0), 0);
    }

    private static void places() {
        due.sentence("how many places (1; 0 of nothing and a LABEL)");
        SpliceBench x = new SpliceBench();
        due.is("of nothing", x.held(0, 1), 0);
        x.hold(0, 1, 5);
        due.is("of a label", x.held(0, 1), 0);
        for (int kind = 2; kind <= 5; kind++) {
            for (int n : new int[] {0, 1, 80}) {
                x.hold(0, kind, n);
                due.is("of " + n + " places", x.held(0, 1), n);
            }
        }
    }

    private static void notBlank() {
        due.sentence("how many of these are not BLANK (2)");
        SpliceBench x = Benches.with(2, 0, -5, 1L << 32, 7, 0);
        due.is("pictures that are not 0", x.held(0, 2), 2);
        Benches.fill(x, 1, 3, 1L << 32, 0, -1, Long.MIN_VALUE);
        due.is("sound that is not 0", x.held(1, 2), 3);
        Benches.fill(x, 2, 4, 1, 2, 0);
        due.is("places with cards", x.held(2, 2), 2);
        Benches.fill(x, 3, 5, 0, 2, 0, 4, 0);
        due.is("places with slides", x.held(3, 2), 2);
        x.move(3, 1, 3, 0, 1);
        due.is("each place of one card", x.held(3, 2), 3);
        x.put(3, 1, 0);
        due.is("not an emptied one", x.held(3, 2), 2);
        x.hold(4, 1, 6);
        due.is("of a label", x.held(4, 2), 0);
        due.is("of nothing", x.held(5, 2), 0);
        for (int kind = 2; kind <= 5; kind++) {
            x.hold(6, kind, 0);
            due.is("of no places", x.held(6, 2), 0);
            x.hold(6, kind, 80);
            due.is("of 80 blank places", x.held(6, 2), 0);
            for (int i = 0; i < 80; i++) {
                x.put(6, i, 2);
            }
            due.is("of 80 places", x.held(6, 2), 80);
        }
    }

    private static void anotherWhat() {
        due.sentence("NONE for another what.");
        SpliceBench x = Benches.filledOfAllKinds();
        for (int what : new int[] {-1, 3, Benches.MIN, Benches.MAX}) {
            for (int kind = 0; kind <= 5; kind++) {
                due.is("held(" + kind + ", " + what + ")", x.held(kind, what), -1);
            }
        }
    }

    private static void refused() {
        due.sentence("-9.");
        SpliceBench x = Benches.filledOfAllKinds();
        for (int s : Benches.NO_SPINDLES) {
            for (int what = -1; what <= 3; what++) {
                due.is("held(" + s + ", " + what + ")", x.held(s, what), -9);
            }
        }
    }
}
