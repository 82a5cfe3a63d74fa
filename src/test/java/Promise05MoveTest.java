public final class Promise05MoveTest {
    private static final Due due = new Due();

    public static void main(String[] args) {
        between();
        overlapping();
        edges();
        missing();
        unlike();
        beyond();
        wrong();
        oneCardInTwoPlaces();
        refused();
        due.end();
    }

    private static void between() {
        for (int kind = 2; kind <= 5; kind++) {
            SpliceBench x = Benches.with(kind, 2, 4, 6, 8);
            Benches.fill(x, 1, kind, 10, 12, 14);
            due.is("move", x.move(0, 1, 1, 0, 2), 2);
            due.row("what came", x, 1, 4, 6, 14);
            due.row("where it came from", x, 0, 2, 4, 6, 8);
            due.is("COME", x.count(0), 2);
            due.is("it did not fail", x.count(5), 1);
        }
        SpliceBench x = Benches.with(4, 1, 0, 3);
        Benches.fill(x, 1, 4, 5, 7, 9);
        due.is("empty places move too", x.move(0, 0, 1, 0, 3), 3);
        due.row("they are empty there", x, 1, 1, 0, 3);
        due.is("they count", x.count(0), 3);
    }

    private static void overlapping() {
        for (int kind = 2; kind <= 5; kind++) {
            SpliceBench x = Benches.with(kind, 2, 4, 6, 8, 10);
            due.is("up", x.move(0, 0, 0, 2, 3), 3);
            due.row("up", x, 0, 2, 4, 2, 4, 6);
            x = Benches.with(kind, 2, 4, 6, 8, 10);
            due.is("down", x.move(0, 1, 0, 0, 4), 4);
            due.row("down", x, 0, 4, 6, 8, 10, 10);
            x = Benches.with(kind, 2, 4, 6);
            due.is("in place", x.move(0, 0, 0, 0, 3), 3);
            due.row("in place", x, 0, 2, 4, 6);
        }
    }

    private static void edges() {
        for (int kind = 2; kind <= 5; kind++) {
            SpliceBench x = Benches.with(kind, 2, 4, 6);
            Benches.fill(x, 1, kind, 8, 10, 12);
            due.is("all places", x.move(0, 0, 1, 0, 3), 3);
            due.row("all places", x, 1, 2, 4, 6);
            due.is("no places behind the last", x.move(0, 3, 1, 3, 0), 0);
            due.is("COME of no places", x.count(0), 0);
            due.is("no places do not fail", x.count(5), 2);
            x.hold(2, kind, 0);
            due.is("no places of none", x.move(2, 0, 2, 0, 0), 0);
            due.is("one place of none", x.move(2, 0, 0, 0, 1), -3);
            due.is("one place to none", x.move(0, 0, 2, 0, 1), -3);
        }
    }

    private static void missing() {
        SpliceBench x = Benches.ofAllKinds();
        int failed = 0;
        for (int kind = 0; kind <= 5; kind++) {
            due.is("to nothing", x.move(kind, 0, 0, 0, 1), -1);
            due.is("from nothing, and beyond", x.move(0, -1, kind, 9, -1), -1);
            failed += 2;
        }
        due.is("missing", x.count(1), failed);
        due.is("nothing came", x.count(0), 0);
    }

    private static void unlike() {
        SpliceBench x = Benches.ofAllKinds();
        int failed = 0;
        for (int one = 1; one <= 5; one++) {
            for (int other = 1; other <= 5; other++) {
                boolean alike = one >= 4 && other >= 4 || one > 1 && one == other;
                due.is("kinds " + one + " and " + other, x.move(one, 0, other, 0, 2),
                    alike ? 2 : -2);
                due.is("kinds " + one + " and " + other + " beyond", x.move(one, -1, other, 9, 2),
                    alike ? -3 : -2);
                failed += alike ? 0 : 2;
            }
        }
        due.is("unlike", x.count(2), failed);
        x.thread(0, 1);
        due.is("a label to itself", x.move(0, 0, 1, 0, 0), -2);
    }

    private static void beyond() {
        int[][] runs = {{-1, 0, 1}, {0, -1, 1}, {0, 0, -1}, {3, 0, 2}, {0, 2, 2}, {5, 0, 0},
            {0, 4, 0}, {0, 0, 4}, {4, 0, 1}, {0, 3, 1}, {Benches.MAX, 0, 1}, {0, Benches.MAX, 1},
            {1, 0, Benches.MAX}, {0, 1, Benches.MAX}, {Benches.MAX, 0, Benches.MAX},
            {Benches.MIN, 0, 1}, {0, Benches.MIN, 1}, {0, 0, Benches.MIN},
            {Benches.MIN, Benches.MIN, Benches.MIN}, {Benches.MAX, Benches.MAX, Benches.MAX},
            {Benches.MAX, Benches.MAX, 2}, {Benches.MIN, 0, Benches.MAX}, {1, 1, -1}};
        for (int kind = 2; kind <= 5; kind++) {
            SpliceBench x = Benches.with(kind, 2, 4, 6, 8);
            Benches.fill(x, 1, kind, 10, 12, 14);
            x.move(1, 0, 1, 0, 1);
            for (int[] run : runs) {
                due.is("beyond " + run[0] + ", " + run[1] + ", " + run[2],
                    x.move(0, run[0], 1, run[1], run[2]), -3);
                due.is("beyond: nothing came", x.count(0), 0);
            }
            due.is("beyond: how many", x.count(3), runs.length);
            due.row("beyond: nothing changed", x, 1, 10, 12, 14);
        }
        SpliceBench x = Benches.with(4, 1, 3);
        x.hold(1, 5, 2);
        due.is("beyond ahead of wrong", x.move(0, 0, 1, 0, 3), -3);
        due.is("beyond ahead of wrong, to", x.move(0, 0, 1, 1, 2), -3);
    }

    private static void wrong() {
        SpliceBench x = Benches.with(4, 2, 0, 4, 7, 6);
        Benches.fill(x, 1, 5, 10, 12, 14, 16, 18);
        due.is("a plain card behind three", x.move(0, 0, 1, 0, 5), -4);
        due.row("three came and stay", x, 1, 2, 0, 4, 16, 18);
        due.is("COME", x.count(0), 3);
        due.is("wrong", x.count(4), 1);
        due.is("it failed", x.count(5), 0);
        due.is("a plain card first", x.move(0, 3, 1, 0, 2), -4);
        due.row("none came", x, 1, 2, 0, 4, 16, 18);
        due.is("COME of none", x.count(0), 0);
        due.is("wrong again", x.count(4), 2);
        due.is("slides alone", x.move(0, 4, 1, 0, 1), 1);
        due.is("no places at a plain card", x.move(0, 3, 1, 0, 0), 0);
        due.is("slides to cards", x.move(1, 0, 0, 0, 5), 5);
        due.row("slides to cards", x, 0, 6, 0, 4, 16, 18);
        Benches.fill(x, 2, 4, 1, 3);
        due.is("plain cards to cards", x.move(2, 0, 0, 0, 2), 2);
        due.is("they are plain there", x.sort(0, 0), 2);
    }

    private static void oneCardInTwoPlaces() {
        SpliceBench x = Benches.with(4, 2, 4);
        x.hold(1, 5, 2);
        x.move(0, 0, 1, 1, 1);
        due.is("the same card", x.same(0, 0, 1, 1), 1);
        x.show(0);
        due.is("shown there too", x.shown(1, 1), 1);
        due.is("no card is made", x.count(7), 2);
        x.put(0, 0, 6);
        due.is("another card here, not there", x.number(1, 1), 2);
    }

    private static void refused() {
        SpliceBench x = Benches.with(2, 4, 5, 6);
        x.move(0, 0, 0, 1, 2);
        for (int s : Benches.NO_SPINDLES) {
            due.is("from no spindle", x.move(s, 0, 0, 0, 1), -9);
            due.is("to no spindle", x.move(0, 0, s, 0, 1), -9);
            due.is("from no spindle to nothing", x.move(s, 0, 9, 0, 1), -9);
        }
        due.is("refused: COME stays", x.count(0), 2);
        due.is("refused: none failed", x.count(1) + x.count(2) + x.count(3) + x.count(4), 0);
        due.is("refused: not counted", x.count(5), 1);
        due.is("refused: still covered", x.count(8), 1);
        due.row("refused: nothing changed", x, 0, 4, 4, 5);
    }
}
