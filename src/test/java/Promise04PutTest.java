public final class Promise04PutTest {
    private static final Due due = new Due("Promise 4: put");
    private static final long[] EDGES = {7, -7, 0, Benches.MAX, Benches.MIN, 1L << 31,
        -(1L << 31) - 1, 1L << 32, (1L << 32) - 1, 0x123456789ABCDEFL, Long.MIN_VALUE,
        Long.MAX_VALUE};

    public static void main(String[] args) {
        pictures();
        sound();
        empty();
        cards();
        labels();
        missing();
        beyond();
        wrong();
        isNoMotion();
        notYetFull();
        full();
        refused();
        due.end();
    }

    private static void pictures() {
        due.sentence("of PICTURES the lowest 32 bits of v");
        SpliceBench x = Benches.ofAllKinds();
        for (long v : EDGES) {
            due.is("put(2, 0, " + v + ")", x.put(2, 0, v), 1);
            due.is("its number", x.number(2, 0), (int) v);
            due.is("put(2, 4, " + v + ")", x.put(2, 4, v), 1);
            due.is("its number", x.number(2, 4), (int) v);
        }
        due.is("the place between is blank", x.number(2, 2), 0);
        x.put(2, 0, 1L << 32);
        x.put(2, 4, 0);
        due.is("2 to the 32nd is blank", x.held(2, 2), 0);
        due.is("numbers are no cards", x.count(7), 0);
    }

    private static void sound() {
        due.sentence("of SOUND v");
        SpliceBench x = Benches.ofAllKinds();
        for (long v : EDGES) {
            due.is("put(3, 0, " + v + ")", x.put(3, 0, v), 1);
            due.is("its number", x.number(3, 0), v);
            due.is("put(3, 4, " + v + ")", x.put(3, 4, v), 1);
            due.is("its number", x.number(3, 4), v);
        }
        due.is("the place between is blank", x.number(3, 2), 0);
        due.is("numbers are no cards", x.count(7), 0);
    }

    private static void empty() {
        due.sentence("of RACKS empty if v is 0");
        for (int kind = 4; kind <= 5; kind++) {
            SpliceBench x = Benches.with(kind, 2, 4);
            due.is("put(0, 1, 0)", x.put(0, 1, 0), 1);
            due.is("it is empty", x.sort(0, 1), 0);
            due.is("put(0, 1, 0) again", x.put(0, 1, 0), 1);
            due.is("it is empty again", x.sort(0, 1), 0);
            due.is("the other card stays", x.number(0, 0), 2);
            due.is("no card came", x.count(7), 2);
        }
    }

    private static void cards() {
        due.sentence("else a new CARD of the NUMBER v, plain if v is odd, a SLIDE if it is even: 1");
        SpliceBench x = Benches.ofAllKinds();
        int came = 0;
        for (long v : EDGES) {
            if (v != 0) {
                came++;
                due.is("put(4, 4, " + v + ")", x.put(4, 4, v), 1);
                due.is("its number", x.number(4, 4), v);
                due.is("its sort", x.sort(4, 4), v % 2 == 0 ? 3 : 2);
                due.is("it is new", x.shown(4, 4), 0);
                due.is("cards that came", x.count(7), came);
                x.show(4);
            }
        }
        x.put(4, 0, Long.MAX_VALUE);
        due.is("one number, two cards", x.same(4, 0, 4, 4), 0);
        due.is("a slide to slides", x.put(5, 0, Long.MIN_VALUE), 1);
        due.is("its number", x.number(5, 0), Long.MIN_VALUE);
        due.is("1L << 32 is even", x.put(5, 4, 1L << 32), 1);
        due.is("a slide", x.sort(5, 4), 3);
    }

    private static void labels() {
        due.sentence("A LABEL's number becomes the lowest 32 bits of v, whatever i is: 1.");
        SpliceBench x = Benches.ofAllKinds();
        for (int i : Benches.ANY_NUMBERS) {
            for (long v : EDGES) {
                due.is("put(1, " + i + ", " + v + ")", x.put(1, i, v), 1);
                due.is("its number", x.number(1, 0), (int) v);
            }
        }
        due.is("it is a label still", x.held(1, 0), 1);
    }

    private static void missing() {
        due.sentence("Else, changing nothing, the first of: -1 MISSING (nothing is held)");
        SpliceBench x = Benches.filledOfAllKinds();
        String before = Benches.look(x);
        for (int i : Benches.ANY_NUMBERS) {
            due.is("put(0, " + i + ", 0)", x.put(0, i, 0), -1);
            due.is("put(0, " + i + ", 1)", x.put(0, i, 1), -1);
        }
        due.unchanged("missing", x, before);
    }

    private static void beyond() {
        due.sentence("-3 BEYOND (no such place)");
        SpliceBench x = Benches.filledOfAllKinds();
        String before = Benches.look(x);
        for (int i : Benches.NO_PLACES) {
            for (int kind = 2; kind <= 5; kind++) {
                for (int v = 0; v <= 2; v++) {
                    due.is("put(" + kind + ", " + i + ", " + v + ")", x.put(kind, i, v), -3);
                }
            }
        }
        due.unchanged("beyond", x, before);
        for (int kind = 2; kind <= 5; kind++) {
            x.hold(9, kind, 0);
            due.is("no place of none", x.put(9, 0, 2), -3);
            x.hold(9, kind, 80);
            due.is("place 79", x.put(9, 79, 2), 1);
            due.is("place 80", x.put(9, 80, 2), -3);
        }
    }

    private static void wrong() {
        due.sentence("-4 WRONG (a plain CARD to SLIDES)");
        SpliceBench x = Benches.filledOfAllKinds();
        String before = Benches.look(x);
        for (long v : EDGES) {
            for (int i = 0; i < 5; i++) {
                if (v % 2 != 0) {
                    due.is("put(5, " + i + ", " + v + ")", x.put(5, i, v), -4);
                }
            }
        }
        due.unchanged("wrong", x, before);
        due.is("beyond ahead of wrong", x.put(5, 5, 7), -3);
        due.is("a plain card to cards", x.put(4, 0, 7), 1);
        x.thread(4, 5);
        due.is("slides on another spindle", x.put(4, 0, 7), -4);
    }

    private static void isNoMotion() {
        due.sentence("changing nothing, the first of");
        SpliceBench x = Benches.filledOfAllKinds();
        x.put(0, 0, 1);
        x.put(5, 9, 1);
        x.put(5, 0, 1);
        x.put(5, 0, 2);
        due.is("COME stays", x.count(0), 2);
        for (int failure = 1; failure <= 4; failure++) {
            due.is("count(" + failure + ")", x.count(failure), 0);
        }
        due.is("count(5)", x.count(5), 1);
    }

    private static void notYetFull() {
        due.sentence("when a CARD would come, and 2,000 came by put()");
        SpliceBench x = new SpliceBench();
        x.hold(0, 4, 80);
        for (int k = 0; k < 510; k++) {
            due.is("one of 510", x.put(0, k % 80, k + 1), 1);
        }
        due.is("510 came", x.count(7), 510);
    }

    /** In more than 512 calls, where the document leaves the answers free: the class's own. */
    private static void full() {
        due.sentence("0, changing nothing, when a CARD would come, and 2,000 came by put(); "
            + "ahead of -3 and -4.");
        SpliceBench x = Benches.ofAllKinds();
        for (int k = 0; k < 2000; k++) {
            due.is("one of 2,000", x.put(4, k % 5, k + 1), 1);
        }
        due.is("behind 2,000", x.put(4, 0, 5), 0);
        due.is("ahead of beyond", x.put(4, 9, 5), 0);
        due.is("ahead of wrong", x.put(5, 0, 5), 0);
        due.is("nothing changed", x.number(4, 0), 1996);
        due.is("cards put", x.count(7), 2000);
        due.is("a blank beyond", x.put(4, 9, 0), -3);
        due.is("a blank", x.put(4, 0, 0), 1);
        due.is("a number", x.put(2, 0, 5), 1);
        due.is("a label", x.put(1, 0, 5), 1);
        due.is("missing", x.put(0, 0, 5), -1);
    }

    private static void refused() {
        due.sentence("-9.");
        SpliceBench x = Benches.filledOfAllKinds();
        String before = Benches.look(x);
        for (int s : Benches.NO_SPINDLES) {
            for (int v = 0; v <= 2; v++) {
                due.is("put(" + s + ", 0, " + v + ")", x.put(s, 0, v), -9);
                due.is("put(" + s + ", -1, " + v + ")", x.put(s, -1, v), -9);
            }
        }
        due.unchanged("refused", x, before);
    }
}
