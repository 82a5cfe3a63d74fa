/** What the terms say of a MOTION, and how it FAILS. */
public final class TermsMotionTest {
    private static final Due due = new Due("Terms");
    private static final int MIN = Benches.MIN;
    private static final int MAX = Benches.MAX;

    public static void main(String[] args) {
        withinOneThing();
        byTheFirst();
        missing();
        labels();
        unlikeStrips();
        alikeRacks();
        belowZero();
        aboveThePlaces();
        noPlaces();
        wrong();
        aheadOfTheWrong();
        due.end();
    }

    private static void withinOneThing() {
        due.sentence("to place j on of what a spindle holds (perhaps the same)");
        for (int kind = 2; kind <= 5; kind++) {
            for (int to = 0; to <= 1; to++) {
                SpliceBench x = Benches.with(kind, 2, 4, 6, 8, 10);
                x.thread(1, 0);
                due.is("up, by one place", x.move(0, 0, to, 1, 4), 4);
                due.row("up, by one place", x, 0, 2, 2, 4, 6, 8);
                due.is("down, by two places", x.move(0, 2, to, 0, 3), 3);
                due.row("down, by two places", x, 0, 4, 6, 8, 6, 8);
                due.is("to where it stands", x.move(0, 0, to, 0, 5), 5);
                due.row("to where it stands", x, 0, 4, 6, 8, 6, 8);
                due.is("apart", x.move(0, 0, to, 3, 2), 2);
                due.row("apart", x, 0, 4, 6, 8, 4, 6);
            }
        }
    }

    private static void byTheFirst() {
        due.sentence("FAILS by the first of these");
        SpliceBench x = Benches.ofAllKinds();
        x.put(4, 0, 7);
        due.is("missing ahead of unlike", x.move(1, 0, 0, 0, 1), -1);
        due.is("missing ahead of beyond", x.move(0, -1, 2, 9, -1), -1);
        due.is("unlike ahead of beyond", x.move(2, -1, 3, 9, -1), -2);
        due.is("unlike ahead of beyond, by a label", x.move(1, -1, 2, 9, 6), -2);
        due.is("beyond ahead of wrong, from", x.move(4, 0, 5, 0, 6), -3);
        due.is("beyond ahead of wrong, to", x.move(4, 0, 5, 4, 2), -3);
        due.is("wrong is left", x.move(4, 0, 5, 4, 1), -4);
        due.row("each is counted once", x, 5, 0, 0, 0, 0, 0);
        due.is("missing", x.count(1), 2);
        due.is("unlike", x.count(2), 2);
        due.is("beyond", x.count(3), 2);
        due.is("wrong", x.count(4), 1);
    }

    private static void missing() {
        due.sentence("1 MISSING: one of them holds nothing.");
        SpliceBench x = Benches.ofAllKinds();
        for (int kind = 0; kind <= 5; kind++) {
            due.is("from kind " + kind + " to nothing", x.move(kind, 0, 0, 0, 1), -1);
            due.is("from nothing to kind " + kind, x.move(0, 0, kind, 0, 1), -1);
            due.is("no places to nothing", x.move(kind, 0, 0, 0, 0), -1);
        }
        due.is("how many failed so", x.count(1), 18);
        x.hold(2, 0, 0);
        due.is("what was taken off", x.move(2, 0, 3, 0, 1), -1);
    }

    private static void labels() {
        due.sentence("2 UNLIKE: one of them holds a LABEL");
        SpliceBench x = Benches.ofAllKinds();
        for (int kind = 1; kind <= 5; kind++) {
            due.is("from a label to kind " + kind, x.move(1, 0, kind, 0, 0), -2);
            due.is("from kind " + kind + " to a label", x.move(kind, 0, 1, 0, 1), -2);
        }
        due.is("how many failed so", x.count(2), 10);
        due.is("the label stays", x.number(1, 0), 77);
        x.hold(0, 1, 5);
        due.is("two labels", x.move(0, 0, 1, 0, 0), -2);
    }

    private static void unlikeStrips() {
        due.sentence("or one PICTURES or SOUND, and the other one not the same KIND");
        for (int strip = 2; strip <= 3; strip++) {
            SpliceBench x = Benches.filledOfAllKinds();
            for (int kind = 2; kind <= 5; kind++) {
                boolean alike = strip == kind;
                due.is(strip + " to " + kind, x.move(strip, 0, kind, 1, 2), alike ? 2 : -2);
                due.is(kind + " to " + strip, x.move(kind, 0, strip, 3, 2), alike ? 2 : -2);
                due.is(strip + " to " + kind + ", no places", x.move(strip, 0, kind, 0, 0),
                    alike ? 0 : -2);
            }
            due.is("how many failed so", x.count(2), 9);
            due.row("the cards stay", x, 4, 8, 7, 8, 7, -8);
            due.row("the slides stay", x, 5, 10, 0, 0, 0, -10);
            int other = 5 - strip;
            due.row("the other strip stays", x, other, 2 * other, 0, 0, 0, -2 * other);
        }
    }

    private static void alikeRacks() {
        due.sentence("(two RACKS are alike)");
        for (int from = 4; from <= 5; from++) {
            for (int to = 4; to <= 5; to++) {
                SpliceBench x = Benches.with(from, 2, 0, 4);
                Benches.fill(x, 1, to, 6, 8, 10);
                due.is(from + " to " + to, x.move(0, 0, 1, 0, 3), 3);
                due.row(from + " to " + to, x, 1, 2, 0, 4);
                due.is("the same card", x.same(0, 2, 1, 2), 1);
            }
        }
        SpliceBench x = Benches.with(4, 1, 3);
        x.hold(1, 4, 2);
        due.is("plain cards to cards", x.move(0, 0, 1, 0, 2), 2);
        due.is("they are plain there", x.sort(1, 1), 2);
    }

    private static void belowZero() {
        due.sentence("3 BEYOND: i, j or n is below 0");
        int[][] runs = {{-1, 0, 1}, {0, -1, 1}, {0, 0, -1}, {-1, 0, 0}, {0, -1, 0}, {1, 1, -1},
            {-1, -1, -1}, {2, 0, -2}, {-2, 0, 2}, {0, -2, 2}, {MIN, 0, 1}, {0, MIN, 1},
            {0, 0, MIN}, {MIN, MIN, MIN}, {MIN, 0, MAX}, {0, MIN, MAX}, {MIN, 0, MIN},
            {MAX, 0, MIN}};
        beyond(runs);
    }

    private static void aboveThePlaces() {
        due.sentence("or i and n, or j and n together are above the places that there are");
        int[][] runs = {{3, 0, 2}, {0, 2, 2}, {5, 0, 0}, {0, 4, 0}, {0, 0, 4}, {4, 0, 1}, {0, 3, 1},
            {2, 0, 3}, {1, 1, 3}, {MAX, 0, 1}, {0, MAX, 1}, {1, 0, MAX}, {0, 1, MAX},
            {MAX, 0, MAX}, {0, MAX, MAX}, {MAX, MAX, 2}, {MAX, MAX, MAX}, {MAX, 0, 0},
            {0, MAX, 0}};
        beyond(runs);
        for (int kind = 2; kind <= 5; kind++) {
            SpliceBench x = fourAndThree(kind);
            due.is("all places of the one", x.move(1, 0, 0, 0, 3), 3);
            due.is("up to the last place of both", x.move(0, 1, 1, 0, 3), 3);
            due.is("the last place alone", x.move(0, 3, 1, 2, 1), 1);
            due.row("at the edge", x, 1, 12, 14, 8);
            due.is("none of these failed", x.count(3), 0);
        }
    }

    private static void noPlaces() {
        due.sentence("together are above the places that there are");
        for (int kind = 2; kind <= 5; kind++) {
            SpliceBench x = fourAndThree(kind);
            due.is("no places behind the last", x.move(0, 4, 1, 3, 0), 0);
            x.hold(2, kind, 0);
            due.is("no places of none", x.move(2, 0, 2, 0, 0), 0);
            due.is("no places of none to some", x.move(2, 0, 0, 4, 0), 0);
            due.is("they do not fail", x.count(5), 3);
            due.is("one place of none", x.move(2, 0, 0, 0, 1), -3);
            due.is("one place to none", x.move(0, 0, 2, 0, 1), -3);
            due.is("behind none", x.move(2, 1, 0, 0, 0), -3);
            due.row("nothing changed", x, 0, 2, 4, 6, 8);
        }
        SpliceBench x = new SpliceBench();
        x.hold(0, 3, 80);
        x.hold(1, 3, 80);
        x.put(0, 79, 5);
        due.is("all 80 places", x.move(0, 0, 1, 0, 80), 80);
        due.is("the last of 80", x.number(1, 79), 5);
        due.is("81 places", x.move(0, 0, 1, 0, 81), -3);
    }

    private static SpliceBench fourAndThree(int kind) {
        SpliceBench x = Benches.with(kind, 2, 4, 6, 8);
        Benches.fill(x, 1, kind, 10, 12, 14);
        return x;
    }

    /** Each run is a motion from four places to three: i, j and n. */
    private static void beyond(int[][] runs) {
        for (int kind = 2; kind <= 5; kind++) {
            SpliceBench x = fourAndThree(kind);
            for (int[] run : runs) {
                due.is("move(0, " + run[0] + ", 1, " + run[1] + ", " + run[2] + ")",
                    x.move(0, run[0], 1, run[1], run[2]), -3);
            }
            due.is("how many failed so", x.count(3), runs.length);
            due.row("the one is not changed", x, 0, 2, 4, 6, 8);
            due.row("the other is not changed", x, 1, 10, 12, 14);
        }
    }

    private static void wrong() {
        due.sentence("4 WRONG: to SLIDES there would come a plain CARD");
        SpliceBench x = Benches.with(4, 2, -7, 0, 4);
        Benches.fill(x, 1, 5, 10, 12, 14);
        due.is("a plain card alone", x.move(0, 1, 1, 0, 1), -4);
        due.row("it does not come", x, 1, 10, 12, 14);
        due.is("no places at a plain card", x.move(0, 1, 1, 0, 0), 0);
        due.is("up to the plain card", x.move(0, 0, 1, 0, 1), 1);
        due.is("behind the plain card", x.move(0, 2, 1, 1, 2), 2);
        due.row("empty places and slides come", x, 1, 2, 0, 4);
        due.is("slides to cards", x.move(1, 0, 0, 1, 3), 3);
        due.is("how many failed so", x.count(4), 1);
        x.thread(2, 1);
        due.is("slides among slides", x.move(2, 0, 1, 0, 3), 3);
    }

    private static void aheadOfTheWrong() {
        due.sentence("the places ahead of the first such one come, and stay");
        for (int plain = 0; plain <= 4; plain++) {
            SpliceBench x = Benches.with(4, 2, 4, 0, 6, 8, 1);
            x.put(0, plain, 7);
            Benches.fill(x, 1, 5, 10, 12, 14, 16, 18, 20);
            due.is("a plain card at " + plain, x.move(0, 0, 1, 0, 6), -4);
            for (int i = 0; i <= 5; i++) {
                due.is("place " + i, x.number(1, i), i < plain ? x.number(0, i) : 10 + 2 * i);
            }
            due.is("so many came", x.count(0), plain);
            due.is("it failed once", x.count(4), 1);
            due.is("it did not go well", x.count(5), 0);
        }
        SpliceBench x = Benches.with(4, 2, 4, 7);
        Benches.fill(x, 1, 5, 10, 12, 14, 16);
        due.is("to another place", x.move(0, 1, 1, 2, 2), -4);
        due.row("to another place", x, 1, 10, 12, 4, 16);
    }
}
