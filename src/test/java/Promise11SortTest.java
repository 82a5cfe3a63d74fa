public final class Promise11SortTest {
    private static final Due due = new Due("Promise 11: sort");

    public static void main(String[] args) {
        numbers();
        cards();
        empty();
        noPlace();
        refused();
        due.end();
    }

    private static void numbers() {
        due.sentence("1 a number");
        SpliceBench x = Benches.ofAllKinds();
        for (int strip = 2; strip <= 3; strip++) {
            x.put(strip, 4, 8);
            x.put(strip, 3, 7);
            due.is("a blank one", x.sort(strip, 0), 1);
            due.is("an even one", x.sort(strip, 4), 1);
            due.is("an odd one", x.sort(strip, 3), 1);
        }
    }

    private static void cards() {
        due.sentence("2 a plain CARD, 3 a SLIDE");
        SpliceBench x = Benches.with(4, 7, -7, 8, Long.MIN_VALUE);
        due.is("plain", x.sort(0, 0), 2);
        due.is("plain, below 0", x.sort(0, 1), 2);
        due.is("a slide", x.sort(0, 2), 3);
        due.is("a slide, below 0", x.sort(0, 3), 3);
        Benches.fill(x, 1, 5, 8, 10);
        due.is("a slide among slides", x.sort(1, 1), 3);
        x.move(1, 0, 0, 0, 2);
        due.is("a slide that came", x.sort(0, 0), 3);
    }

    private static void empty() {
        due.sentence("0 none (it is empty)");
        for (int kind = 4; kind <= 5; kind++) {
            SpliceBench x = Benches.with(kind, 2, 0, 4);
            due.is("at first", x.sort(0, 1), 0);
            x.put(0, 0, 0);
            due.is("emptied", x.sort(0, 0), 0);
            x.close(0, 0, 1);
            due.is("behind a closing", x.sort(0, 2), 0);
        }
    }

    private static void noPlace() {
        due.sentence("NONE when there is no such place.");
        SpliceBench x = Benches.filledOfAllKinds();
        for (int kind = 0; kind <= 5; kind++) {
            for (int i : Benches.NO_PLACES) {
                due.is("sort(" + kind + ", " + i + ")", x.sort(kind, i), -1);
            }
            x.hold(9, kind, 0);
            due.is("none of kind " + kind, x.sort(9, 0), -1);
        }
        due.is("of nothing", x.sort(0, 0), -1);
        due.is("of a label", x.sort(1, 0), -1);
        x.hold(9, 2, 80);
        due.is("place 79", x.sort(9, 79), 1);
        due.is("place 80", x.sort(9, 80), -1);
    }

    private static void refused() {
        due.sentence("-9.");
        SpliceBench x = Benches.filledOfAllKinds();
        for (int s : Benches.NO_SPINDLES) {
            due.is("sort(" + s + ", 0)", x.sort(s, 0), -9);
            due.is("sort(" + s + ", -1)", x.sort(s, -1), -9);
        }
    }
}
