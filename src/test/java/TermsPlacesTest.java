/** What the terms say of PLACES. */
public final class TermsPlacesTest {
    private static final Due due = new Due("Terms");
    private static final long[] EDGES = {0, 1, -1, Benches.MAX, Benches.MIN, 1L << 31,
        -(1L << 31) - 1, 1L << 32, (1L << 32) - 1, -(1L << 32), Long.MAX_VALUE, Long.MIN_VALUE};

    public static void main(String[] args) {
        howMany();
        fromZeroOn();
        pictures();
        sound();
        cards();
        slides();
        blank();
        due.end();
    }

    private static void howMany() {
        due.sentence("STRIPS and RACKS have 0 .. 80 PLACES");
        for (int kind = 2; kind <= 5; kind++) {
            SpliceBench x = new SpliceBench();
            for (int n : new int[] {0, 1, 79, 80}) {
                due.is(n + " places of kind " + kind, x.hold(0, kind, n), 1);
                due.is("how many they are", x.held(0, 1), n);
            }
            due.is("81 places", x.hold(0, kind, 81), 0);
            due.is("-1 places", x.hold(0, kind, -1), 0);
        }
    }

    private static void fromZeroOn() {
        due.sentence("numbered from 0 on");
        for (int kind = 2; kind <= 5; kind++) {
            for (int n : new int[] {0, 1, 80}) {
                SpliceBench x = new SpliceBench();
                x.hold(0, kind, n);
                for (int i : new int[] {-1, 0, n - 1, n}) {
                    boolean there = i >= 0 && i < n;
                    String what = "place " + i + " of " + n + " of kind " + kind;
                    due.is(what + ": put", x.put(0, i, 6), there ? 1 : -3);
                    due.is(what + ": number", x.number(0, i), there ? 6 : 0);
                    due.is(what + ": sort", x.sort(0, i), there ? kind <= 3 ? 1 : 3 : -1);
                }
            }
        }
    }

    private static void pictures() {
        due.sentence("of PICTURES each is a number of 32 bits with sign");
        SpliceBench x = Benches.ofAllKinds();
        for (long v : EDGES) {
            x.put(2, 4, v);
            due.is("of pictures " + v, x.number(2, 4), (int) v);
            due.is("a number", x.sort(2, 4), 1);
        }
    }

    private static void sound() {
        due.sentence("of SOUND one of 64");
        SpliceBench x = Benches.ofAllKinds();
        for (long v : EDGES) {
            x.put(3, 4, v);
            due.is("of sound " + v, x.number(3, 4), v);
            due.is("a number", x.sort(3, 4), 1);
        }
    }

    private static void cards() {
        due.sentence("of CARDS each is empty or has a CARD, plain or a SLIDE");
        SpliceBench x = Benches.with(4, 0, 7, 8);
        due.is("empty", x.sort(0, 0), 0);
        due.is("a plain card", x.sort(0, 1), 2);
        due.is("a slide", x.sort(0, 2), 3);
    }

    private static void slides() {
        due.sentence("of SLIDES each is empty or has a SLIDE");
        SpliceBench x = Benches.with(5, 0, 7, 8);
        due.is("empty", x.sort(0, 0), 0);
        due.is("no plain card", x.sort(0, 1), 0);
        due.is("a slide", x.sort(0, 2), 3);
        Benches.fill(x, 1, 4, 7);
        x.move(1, 0, 0, 2, 1);
        due.is("no plain card by a motion", x.sort(0, 2), 3);
    }

    private static void blank() {
        due.sentence("BLANK is 0, or empty.");
        for (int kind = 2; kind <= 5; kind++) {
            SpliceBench x = Benches.with(kind, 2, 0, -2);
            due.is("not blank of kind " + kind, x.held(0, 2), 2);
            x.open(0, 0, 2);
            due.is("blanks of a gap are 0", x.number(0, 0), 0);
            due.is("blanks of a gap are empty", x.sort(0, 1), kind <= 3 ? 1 : 0);
            due.is("blanks of a gap have no card", x.shown(0, 1), -1);
            due.is("one is not blank", x.held(0, 2), 1);
        }
    }
}
