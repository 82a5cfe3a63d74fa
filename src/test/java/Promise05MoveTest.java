public final class Promise05MoveTest {
    private static final Due due = new Due("Promise 5: move");

    public static void main(String[] args) {
        moves();
        shortAndLong();
        answersN();
        blankPlaces();
        failures();
        refused();
        due.end();
    }

    private static void moves() {
        due.sentence("A MOTION of n places from place i on of what spindle from holds to place j "
            + "on of what spindle to holds: n");
        for (int kind = 2; kind <= 5; kind++) {
            SpliceBench x = Benches.with(kind, 2, 4, 6, 8);
            Benches.fill(x, 9, kind, 10, 12, 14);
            due.is("move(0, 1, 9, 0, 2)", x.move(0, 1, 9, 0, 2), 2);
            due.row("where it went", x, 9, 4, 6, 14);
            due.row("where it came from", x, 0, 2, 4, 6, 8);
            due.is("it did not fail", x.count(5), 1);
        }
        SpliceBench x = Benches.with(2, Benches.MIN, Benches.MAX);
        Benches.fill(x, 1, 2, 0, 0);
        x.move(0, 0, 1, 0, 2);
        due.row("pictures keep 32 bits", x, 1, Benches.MIN, Benches.MAX);
        Benches.fill(x, 0, 3, Long.MIN_VALUE, Long.MAX_VALUE);
        Benches.fill(x, 1, 3, 0, 0);
        x.move(0, 0, 1, 0, 2);
        due.row("sound keeps 64 bits", x, 1, Long.MIN_VALUE, Long.MAX_VALUE);
    }

    private static void shortAndLong() {
        due.sentence("from place i on of what spindle from holds to place j on of what spindle to "
            + "holds");
        for (int kind = 2; kind <= 5; kind++) {
            SpliceBench x = Benches.with(kind, 2, 4);
            x.hold(1, kind, 80);
            due.is("to the last of 80 places", x.move(0, 0, 1, 78, 2), 2);
            due.is("place 77", x.number(1, 77), 0);
            due.is("place 78", x.number(1, 78), 2);
            due.is("place 79", x.number(1, 79), 4);
            x.hold(2, kind, 1);
            due.is("from the last of 80 places", x.move(1, 79, 2, 0, 1), 1);
            due.row("from the last of 80 places", x, 2, 4);
            due.is("to a place that there is not", x.move(1, 79, 2, 1, 1), -3);
        }
    }

    private static void answersN() {
        due.sentence("holds: n");
        for (int kind = 2; kind <= 5; kind++) {
            SpliceBench x = new SpliceBench();
            x.hold(0, kind, 80);
            x.hold(1, kind, 80);
            for (int n = 0; n <= 80; n++) {
                due.is("move(0, 0, 1, 0, " + n + ")", x.move(0, 0, 1, 0, n), n);
                due.is("within one thing", x.move(0, 80 - n, 0, 0, n), n);
            }
            due.is("none failed", x.count(5), 162);
        }
    }

    private static void blankPlaces() {
        due.sentence("A MOTION of n places");
        for (int kind = 2; kind <= 5; kind++) {
            SpliceBench x = Benches.with(kind, 2, 0, 4);
            Benches.fill(x, 1, kind, 6, 8, 10);
            due.is("blank places go, too", x.move(0, 0, 1, 0, 3), 3);
            due.row("they are blank there", x, 1, 2, 0, 4);
            due.is("not blank there", x.held(1, 2), 2);
        }
    }

    private static void failures() {
        due.sentence("or less its FAILURE's number (-1 to -4)");
        SpliceBench x = Benches.filledOfAllKinds();
        due.is("from nothing", x.move(0, 0, 2, 0, 1), -1);
        due.is("to nothing", x.move(2, 0, 0, 0, 1), -1);
        due.is("from a label", x.move(1, 0, 2, 0, 1), -2);
        due.is("to a label", x.move(2, 0, 1, 0, 1), -2);
        due.is("pictures to sound", x.move(2, 0, 3, 0, 1), -2);
        due.is("sound to cards", x.move(3, 0, 4, 0, 1), -2);
        due.is("below 0", x.move(2, -1, 2, 0, 1), -3);
        due.is("above the places from", x.move(2, 4, 2, 0, 2), -3);
        due.is("above the places to", x.move(2, 0, 2, 4, 2), -3);
        due.is("a wrap-around", x.move(2, Benches.MAX, 2, 0, Benches.MAX), -3);
        due.is("a plain card second", x.move(4, 0, 5, 0, 2), -4);
        due.is("a plain card first", x.move(4, 1, 5, 0, 2), -4);
        due.is("none of them is counted as fine", x.count(5), 1);
    }

    private static void refused() {
        due.sentence("-9.");
        SpliceBench x = Benches.filledOfAllKinds();
        String before = Benches.look(x);
        for (int s : Benches.NO_SPINDLES) {
            due.is("from spindle " + s, x.move(s, 0, 4, 0, 1), -9);
            due.is("to spindle " + s, x.move(4, 0, s, 0, 1), -9);
            due.is("from and to spindle " + s, x.move(s, 0, s, 0, 1), -9);
            due.is("ahead of missing", x.move(0, 0, s, 0, 1), -9);
            due.is("ahead of unlike", x.move(s, 0, 1, 0, 1), -9);
            due.is("ahead of beyond", x.move(4, -1, s, 0, 1), -9);
        }
        due.unchanged("refused", x, before);
    }
}
