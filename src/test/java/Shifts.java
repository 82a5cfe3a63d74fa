/** What a GAP and a CLOSING have in common, asked of the one or the other. */
final class Shifts {
    private static final int MIN = Benches.MIN;
    private static final int MAX = Benches.MAX;

    private final Due due;
    private final boolean gap;

    Shifts(Due due, boolean gap) {
        this.due = due;
        this.gap = gap;
    }

    int shift(SpliceBench x, int s, int i, int n) {
        return gap ? x.open(s, i, n) : x.close(s, i, n);
    }

    private String call(int s, int i, int n) {
        return (gap ? "open(" : "close(") + s + ", " + i + ", " + n + ")";
    }

    /** By it the numbers 2, 4, 6, 8, 10 become the wanted ones. */
    void changes(int kind, int i, int n, long... want) {
        String what = call(0, i, n) + " of kind " + kind;
        SpliceBench x = Benches.with(kind, 2, 4, 6, 8, 10);
        due.is(what, shift(x, 0, i, n), 1);
        due.row(what, x, 0, want);
        due.is(what + ": COME", x.count(0), 5 - i - n);
        due.is(what + ": did not fail", x.count(5), 1);
        due.is(what + ": places", x.held(0, 1), 5);
    }

    /** The n places from the first on are blank, and no others: 0, or without a card. */
    void blanks(int kind, int i, int n, int first) {
        SpliceBench x = Benches.with(kind, 2, 4, 6, 8, 10);
        shift(x, 0, i, n);
        for (int k = first; k < first + n; k++) {
            String place = call(0, i, n) + " of kind " + kind + ", place " + k;
            due.is(place + ": number", x.number(0, k), 0);
            due.is(place + ": sort", x.sort(0, k), kind <= 3 ? 1 : 0);
            due.is(place + ": shown", x.shown(0, k), -1);
        }
        due.is("not blank", x.held(0, 2), 5 - n);
    }

    void failsByMissing() {
        SpliceBench x = Benches.ofAllKinds();
        int[][] runs = {{0, 0}, {0, 1}, {-1, 0}, {0, -1}, {MAX, MAX}};
        for (int[] run : runs) {
            due.is(call(0, run[0], run[1]) + " of nothing", shift(x, 0, run[0], run[1]), -1);
        }
        due.is("missing", x.count(1), runs.length);
        due.is("did not fail", x.count(5), 0);
    }

    void failsByLabel() {
        SpliceBench x = Benches.ofAllKinds();
        int[][] runs = {{0, 0}, {0, 1}, {-1, 0}, {0, -1}, {MAX, MAX}};
        for (int[] run : runs) {
            due.is(call(1, run[0], run[1]) + " of a label", shift(x, 1, run[0], run[1]), -2);
        }
        due.is("unlike", x.count(2), runs.length);
        due.is("did not fail", x.count(5), 0);
        due.is("the label stays", x.number(1, 0), 77);
    }

    void failsBelowZero() {
        int[][] runs = {{-1, 1}, {1, -1}, {-1, 0}, {0, -1}, {-1, -1}, {5, -1}, {-1, 5}, {MIN, 0},
            {0, MIN}, {MIN, MAX}, {MAX, MIN}, {MIN, MIN}};
        failsBeyond(runs);
    }

    void failsAbove() {
        int[][] runs = {{6, 0}, {5, 1}, {0, 6}, {3, 3}, {1, 5}, {MAX, 0}, {0, MAX}, {MAX, 1},
            {1, MAX}, {MAX, MAX}};
        failsBeyond(runs);
        for (int kind = 2; kind <= 5; kind++) {
            SpliceBench x = Benches.with(kind, 2, 4, 6, 8, 10);
            int[][] atTheEdge = {{5, 0}, {4, 1}, {0, 5}};
            for (int[] run : atTheEdge) {
                due.is(call(0, run[0], run[1]), shift(x, 0, run[0], run[1]), 1);
            }
            x.hold(0, kind, 0);
            due.is("no places of none", shift(x, 0, 0, 0), 1);
            due.is("one place of none", shift(x, 0, 0, 1), -3);
            due.is("behind none", shift(x, 0, 1, 0), -3);
            x.hold(0, kind, 80);
            due.is("all 80 places", shift(x, 0, 0, 80), 1);
            due.is("81 places", shift(x, 0, 0, 81), -3);
            due.is("behind the last of 80", shift(x, 0, 80, 0), 1);
            due.is("one place behind the last of 80", shift(x, 0, 80, 1), -3);
        }
    }

    /** Each run is a place and n. */
    private void failsBeyond(int[][] runs) {
        for (int kind = 2; kind <= 5; kind++) {
            SpliceBench x = Benches.with(kind, 2, 4, 6, 8, 10);
            for (int[] run : runs) {
                due.is(call(0, run[0], run[1]), shift(x, 0, run[0], run[1]), -3);
            }
            due.is("beyond", x.count(3), runs.length);
            due.is("did not fail", x.count(5), 0);
            due.row("nothing changed", x, 0, 2, 4, 6, 8, 10);
        }
    }

    void countsBlankPlaces() {
        for (int kind = 2; kind <= 5; kind++) {
            SpliceBench x = Benches.with(kind, 0, 0, 0, 0);
            shift(x, 0, 0, 1);
            due.is("blank places come", x.count(0), 3);
            shift(x, 0, 1, 0);
            due.is("all from the place on come where n is 0", x.count(0), 3);
        }
    }

    void refused() {
        SpliceBench x = Benches.filledOfAllKinds();
        String before = Benches.look(x);
        for (int s : Benches.NO_SPINDLES) {
            due.is(call(s, 0, 1), shift(x, s, 0, 1), -9);
            due.is(call(s, -1, 99), shift(x, s, -1, 99), -9);
        }
        due.unchanged("refused", x, before);
    }
}
