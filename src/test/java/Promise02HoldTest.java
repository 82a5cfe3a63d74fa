public final class Promise02HoldTest {
    private static final Due due = new Due("Promise 2: hold");

    public static void main(String[] args) {
        takesOff();
        labels();
        allBlank();
        nothing();
        noKind();
        noSize();
        notYetFull();
        full();
        refused();
        due.end();
    }

    private static void takesOff() {
        due.sentence("Spindle s holds something new (what it held is taken off)");
        for (int old = 1; old <= 5; old++) {
            for (int kind = 0; kind <= 5; kind++) {
                SpliceBench x = Benches.filledOfAllKinds();
                x.thread(9, old);
                due.is("hold of " + kind + " for " + old, x.hold(old, kind, 5), 1);
                due.is("its kind", x.held(old, 0), kind);
                due.is("it is new", x.same(old, -1, 9, -1), 0);
                due.is("what was held stays elsewhere", x.held(9, 0), old);
                due.is("with its number", x.number(9, 0), old == 1 ? 77 : 2 * old);
                due.is("another spindle's stays", x.held(old == 5 ? 4 : 5, 0), old == 5 ? 4 : 5);
            }
        }
    }

    private static void labels() {
        due.sentence("a LABEL of the number n");
        SpliceBench x = new SpliceBench();
        for (int n : Benches.ANY_NUMBERS) {
            due.is("hold(0, 1, " + n + ")", x.hold(0, 1, n), 1);
            due.is("its kind", x.held(0, 0), 1);
            due.is("its number", x.number(0, 0), n);
        }
        due.is("labels are no strips or racks", x.count(6), 0);
    }

    private static void allBlank() {
        due.sentence("or n places of the KIND, all BLANK");
        for (int kind = 2; kind <= 5; kind++) {
            for (int n : new int[] {0, 1, 7, 80}) {
                SpliceBench x = new SpliceBench();
                String what = n + " places of kind " + kind;
                due.is(what, x.hold(9, kind, n), 1);
                due.is(what + ": kind", x.held(9, 0), kind);
                due.is(what + ": how many", x.held(9, 1), n);
                due.is(what + ": not blank", x.held(9, 2), 0);
                for (int i = 0; i < n; i++) {
                    due.is(what + ": number", x.number(9, i), 0);
                    due.is(what + ": sort", x.sort(9, i), kind <= 3 ? 1 : 0);
                }
                due.is(what + ": made", x.count(6), 1);
            }
        }
    }

    private static void nothing() {
        due.sentence("or nothing: 1");
        SpliceBench x = Benches.with(2, 4, 5);
        for (int n : Benches.ANY_NUMBERS) {
            due.is("hold(0, 0, " + n + ")", x.hold(0, 0, n), 1);
            due.is("its kind", x.held(0, 0), 0);
            due.is("its number", x.number(0, 0), 0);
        }
        due.is("nothing is made", x.count(6), 1);
    }

    private static void noKind() {
        due.sentence("0, changing nothing, when kind is not 0 .. 5");
        SpliceBench x = Benches.filledOfAllKinds();
        String before = Benches.look(x);
        for (int kind : new int[] {-1, 6, 7, Benches.MIN, Benches.MAX}) {
            for (int s = 0; s <= 5; s++) {
                due.is("hold(" + s + ", " + kind + ", 1)", x.hold(s, kind, 1), 0);
            }
        }
        due.unchanged("no kind", x, before);
        for (int kind = 0; kind <= 5; kind++) {
            due.is("hold(9, " + kind + ", 1)", x.hold(9, kind, 1), 1);
        }
    }

    private static void noSize() {
        due.sentence("when n is not 0 .. 80 (of KINDS 2 to 5)");
        SpliceBench x = Benches.filledOfAllKinds();
        String before = Benches.look(x);
        for (int n : new int[] {-1, 81, Benches.MIN, Benches.MAX}) {
            for (int kind = 2; kind <= 5; kind++) {
                due.is("hold(4, " + kind + ", " + n + ")", x.hold(4, kind, n), 0);
            }
        }
        due.unchanged("no size", x, before);
        for (int n : new int[] {-1, 81}) {
            due.is("hold(9, 0, " + n + ")", x.hold(9, 0, n), 1);
            due.is("hold(9, 1, " + n + ")", x.hold(9, 1, n), 1);
        }
        for (int kind = 2; kind <= 5; kind++) {
            due.is("hold(9, " + kind + ", 0)", x.hold(9, kind, 0), 1);
            due.is("hold(9, " + kind + ", 80)", x.hold(9, kind, 80), 1);
        }
    }

    private static void notYetFull() {
        due.sentence("when 600 STRIPS and RACKS were made");
        SpliceBench x = new SpliceBench();
        for (int k = 0; k < 511; k++) {
            due.is("one of 511", x.hold(k % 10, 2 + k % 4, 80), 1);
        }
        due.is("511 are made", x.count(6), 511);
    }

    /** In more than 512 calls, where the document leaves the answers free: the class's own. */
    private static void full() {
        due.sentence("or when 600 STRIPS and RACKS were made");
        SpliceBench x = new SpliceBench();
        for (int k = 0; k < 600; k++) {
            due.is("one of 600", x.hold(k % 10, 2 + k % 4, 1), 1);
        }
        for (int kind = 2; kind <= 5; kind++) {
            due.is("behind 600", x.hold(3, kind, 2), 0);
        }
        due.is("behind 600: made", x.count(6), 600);
        due.is("behind 600: nothing changed", x.held(3, 1), 1);
    }

    private static void refused() {
        due.sentence("-9.");
        SpliceBench x = Benches.filledOfAllKinds();
        String before = Benches.look(x);
        for (int s : Benches.NO_SPINDLES) {
            due.is("hold(" + s + ", 2, 1)", x.hold(s, 2, 1), -9);
            due.is("hold(" + s + ", 6, 1)", x.hold(s, 6, 1), -9);
            due.is("hold(" + s + ", 2, 81)", x.hold(s, 2, 81), -9);
        }
        due.unchanged("refused", x, before);
    }
}
