public final class Promise07CloseTest {
    private static final Due due = new Due();

    public static void main(String[] args) {
        for (int kind = 2; kind <= 5; kind++) {
            closing(kind, 0, 1, new long[] {4, 6, 8, 10, 0});
            closing(kind, 1, 2, new long[] {2, 8, 10, 0, 0});
            closing(kind, 2, 3, new long[] {2, 4, 0, 0, 0});
            closing(kind, 4, 1, new long[] {2, 4, 6, 8, 0});
            closing(kind, 0, 4, new long[] {10, 0, 0, 0, 0});
            closing(kind, 0, 5, new long[] {0, 0, 0, 0, 0});
            closing(kind, 0, 0, new long[] {2, 4, 6, 8, 10});
            closing(kind, 3, 0, new long[] {2, 4, 6, 8, 10});
            closing(kind, 5, 0, new long[] {2, 4, 6, 8, 10});
            failures(kind);
            ofNoPlaces(kind);
        }
        blankPlacesCome();
        cardsStaySame();
        othersAndRefused();
        due.end();
    }

    private static void closing(int kind, int i, int n, long[] want) {
        String what = "close(0, " + i + ", " + n + ") of kind " + kind;
        SpliceBench x = Benches.with(kind, 2, 4, 6, 8, 10);
        due.is(what, x.close(0, i, n), 1);
        due.row(what, x, 0, want);
        due.is(what + ": COME", x.count(0), 5 - i - n);
        due.is(what + ": did not fail", x.count(5), 1);
        due.is(what + ": covered", x.count(8), 1);
        due.is(what + ": places", x.held(0, 1), 5);
    }

    private static void failures(int kind) {
        int[][] runs = {{-1, 1}, {1, -1}, {6, 0}, {5, 1}, {0, 6}, {3, 3}, {Benches.MAX, 1},
            {1, Benches.MAX}, {Benches.MAX, Benches.MAX}, {Benches.MIN, 0}, {0, Benches.MIN},
            {Benches.MIN, Benches.MAX}, {Benches.MIN, Benches.MIN}};
        SpliceBench x = Benches.with(kind, 2, 4, 6, 8, 10);
        for (int[] run : runs) {
            x.move(0, 0, 0, 0, 2);
            due.is("beyond " + run[0] + ", " + run[1], x.close(0, run[0], run[1]), -3);
            due.is("beyond: nothing came", x.count(0), 0);
        }
        due.is("beyond: how many", x.count(3), runs.length);
        due.row("beyond: nothing changed", x, 0, 2, 4, 6, 8, 10);
    }

    private static void ofNoPlaces(int kind) {
        SpliceBench x = Benches.with(kind);
        due.is("no places of none", x.close(0, 0, 0), 1);
        due.is("one place of none", x.close(0, 0, 1), -3);
    }

    private static void blankPlacesCome() {
        SpliceBench x = Benches.with(4, 0, 0, 0, 0);
        x.close(0, 0, 1);
        due.is("empty places come", x.count(0), 3);
    }

    private static void cardsStaySame() {
        SpliceBench x = Benches.with(5, 2, 4);
        x.show(0);
        x.close(0, 0, 1);
        due.is("the card went down", x.number(0, 0), 4);
        due.is("it is the same", x.shown(0, 0), 1);
        due.is("the last is empty", x.sort(0, 1), 0);
        due.is("no card is made", x.count(7), 2);
    }

    private static void othersAndRefused() {
        SpliceBench x = Benches.ofAllKinds();
        x.close(2, 1, 1);
        for (int s : Benches.NO_SPINDLES) {
            due.is("close on no spindle", x.close(s, 0, 0), -9);
        }
        due.is("refused: COME stays", x.count(0), 3);
        due.is("refused: not counted", x.count(5), 1);
        due.is("close of nothing", x.close(0, -1, 0), -1);
        due.is("close of nothing: nothing came", x.count(0), 0);
        due.is("close of a label", x.close(1, -1, 0), -2);
        due.is("missing", x.count(1), 1);
        due.is("unlike", x.count(2), 1);
        due.is("a label stays", x.number(1, 0), 77);
    }
}
