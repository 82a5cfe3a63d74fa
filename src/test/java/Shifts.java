/** What a gap and a closing promise alike, asked of the one or the other. */
final class Shifts {
    private final Due due;
    private final boolean gap;

    Shifts(Due due, boolean gap) {
        this.due = due;
        this.gap = gap;
    }

    private int shift(SpliceBench x, int s, int i, int n) {
        return gap ? x.open(s, i, n) : x.close(s, i, n);
    }

    /** By it the numbers 2, 4, 6, 8, 10 become the wanted ones. */
    void changes(int kind, int i, int n, long... want) {
        String what = (gap ? "open" : "close") + "(0, " + i + ", " + n + ") of kind " + kind;
        SpliceBench x = Benches.with(kind, 2, 4, 6, 8, 10);
        due.is(what, shift(x, 0, i, n), 1);
        due.row(what, x, 0, want);
        due.is(what + ": COME", x.count(0), 5 - i - n);
        due.is(what + ": did not fail", x.count(5), 1);
        due.is(what + ": covered", x.count(8), 1);
        due.is(what + ": places", x.held(0, 1), 5);
    }

    void failsBeyond(int kind) {
        int[][] runs = {{-1, 1}, {1, -1}, {6, 0}, {5, 1}, {0, 6}, {3, 3}, {Benches.MAX, 1},
            {1, Benches.MAX}, {Benches.MAX, Benches.MAX}, {Benches.MIN, 0}, {0, Benches.MIN},
            {Benches.MIN, Benches.MAX}, {Benches.MIN, Benches.MIN}};
        SpliceBench x = Benches.with(kind, 2, 4, 6, 8, 10);
        for (int[] run : runs) {
            x.move(0, 0, 0, 0, 2);
            due.is("beyond " + run[0] + ", " + run[1], shift(x, 0, run[0], run[1]), -3);
            due.is("beyond: nothing came", x.count(0), 0);
        }
        due.is("beyond: how many", x.count(3), runs.length);
        due.row("beyond: nothing changed", x, 0, 2, 4, 6, 8, 10);
    }

    void takesNoPlaces(int kind) {
        SpliceBench x = Benches.with(kind);
        due.is("no places of none", shift(x, 0, 0, 0), 1);
        due.is("one place of none", shift(x, 0, 0, 1), -3);
        for (int i : new int[] {0, 3, 5}) {
            changes(kind, i, 0, 2, 4, 6, 8, 10);
        }
    }

    void countsBlankPlaces() {
        SpliceBench x = Benches.with(4, 0, 0, 0, 0);
        shift(x, 0, 0, 1);
        due.is("empty places come", x.count(0), 3);
    }

    void failsOrIsRefused() {
        SpliceBench x = Benches.ofAllKinds();
        shift(x, 2, 1, 1);
        for (int s : Benches.NO_SPINDLES) {
            due.is("on no spindle", shift(x, s, 0, 0), -9);
        }
        due.is("refused: COME stays", x.count(0), 3);
        due.is("refused: not counted", x.count(5), 1);
        due.is("of nothing", shift(x, 0, -1, 0), -1);
        due.is("of nothing: nothing came", x.count(0), 0);
        due.is("of a label", shift(x, 1, -1, 0), -2);
        due.is("missing", x.count(1), 1);
        due.is("unlike", x.count(2), 1);
        due.is("a label stays", x.number(1, 0), 77);
    }
}
