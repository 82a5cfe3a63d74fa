public final class Promise04PutTest {
    private static final Due due = new Due();
    private static final int[] NO_PLACES = {-1, 5, 6, Benches.MIN, Benches.MAX};

    public static void main(String[] args) {
        numbers();
        labels();
        cards();
        slides();
        failures();
        failuresAreNotCounted();
        mostCards();
        due.end();
    }

    private static void numbers() {
        SpliceBench x = Benches.ofAllKinds();
        long[] values = {7, -7, 0, Benches.MAX, Benches.MIN, 2147483648L, -2147483649L,
            4294967296L, 0x123456789ABCDEFL, Long.MIN_VALUE, Long.MAX_VALUE};
        for (long v : values) {
            due.is("put of pictures", x.put(2, 4, v), 1);
            due.is("pictures have 32 bits", x.number(2, 4), (int) v);
            due.is("put of sound", x.put(3, 0, v), 1);
            due.is("sound has 64 bits", x.number(3, 0), v);
        }
        due.is("put of 2 to the 32nd is blank of pictures", x.put(2, 4, 1L << 32), 1);
        due.is("blank", x.held(2, 2), 0);
        due.is("numbers are no cards", x.count(7), 0);
    }

    private static void labels() {
        SpliceBench x = Benches.ofAllKinds();
        for (int i : new int[] {0, 1, -1, Benches.MIN, Benches.MAX}) {
            due.is("put of a label, whatever i is", x.put(1, i, (5L << 32) + i), 1);
            due.is("its lowest 32 bits", x.number(1, 0), i);
        }
    }

    private static void cards() {
        SpliceBench x = Benches.ofAllKinds();
        due.is("a plain card", x.put(4, 0, 7), 1);
        due.is("a slide", x.put(4, 1, 8), 1);
        due.is("a plain card below 0", x.put(4, 2, -7), 1);
        due.is("a slide of 64 bits", x.put(4, 3, Long.MIN_VALUE), 1);
        due.row("numbers", x, 4, 7, 8, -7, Long.MIN_VALUE, 0);
        due.is("odd is plain", x.sort(4, 0), 2);
        due.is("even is a slide", x.sort(4, 1), 3);
        due.is("odd below 0 is plain", x.sort(4, 2), 2);
        due.is("even of 64 bits is a slide", x.sort(4, 3), 3);
        due.is("cards put", x.count(7), 4);

        due.is("the number again is a new card", x.put(4, 4, 7), 1);
        due.is("not the same", x.same(4, 0, 4, 4), 0);
        x.show(4);
        due.is("a card anew", x.put(4, 0, 7), 1);
        due.is("was never shown", x.shown(4, 0), 0);
        due.is("empty", x.put(4, 0, 0), 1);
        due.is("is empty", x.sort(4, 0), 0);
        due.is("empty is no card", x.count(7), 6);
    }

    private static void slides() {
        SpliceBench x = Benches.ofAllKinds();
        due.is("a slide to slides", x.put(5, 0, -2), 1);
        due.is("it is a slide", x.sort(5, 0), 3);
        due.is("a plain card to slides", x.put(5, 0, 3), -4);
        due.is("a plain card below 0 to slides", x.put(5, 0, -1), -4);
        due.is("nothing changed", x.number(5, 0), -2);
        due.is("a plain card did not come", x.count(7), 1);
        due.is("empty to slides", x.put(5, 0, 0), 1);
        due.is("is empty", x.sort(5, 0), 0);
    }

    private static void failures() {
        SpliceBench x = Benches.ofAllKinds();
        due.is("put to nothing", x.put(0, 0, 1), -1);
        due.is("put to nothing, no place", x.put(0, -1, 0), -1);
        for (int i : NO_PLACES) {
            for (int kind = 2; kind <= 5; kind++) {
                due.is("no such place", x.put(kind, i, 2), -3);
                due.is("no such place for a blank", x.put(kind, i, 0), -3);
            }
            due.is("no such place, ahead of wrong", x.put(5, i, 1), -3);
        }
        for (int kind = 2; kind <= 5; kind++) {
            due.is("nothing changed", x.held(kind, 2), 0);
        }
        for (int s : Benches.NO_SPINDLES) {
            due.is("put to no spindle", x.put(s, 0, 1), -9);
        }
        due.is("no card came", x.count(7), 0);
    }

    private static void failuresAreNotCounted() {
        SpliceBench x = Benches.ofAllKinds();
        x.move(2, 0, 2, 1, 3);
        x.put(0, 0, 1);
        x.put(5, 9, 1);
        x.put(5, 0, 1);
        x.put(5, 0, 2);
        due.is("put leaves COME", x.count(0), 3);
        for (int failure = 1; failure <= 4; failure++) {
            due.is("put is no motion: count(" + failure + ")", x.count(failure), 0);
        }
        due.is("put is no motion: count(5)", x.count(5), 1);
    }

    /** More than 512 calls, which the document leaves free: what this program does then. */
    private static void mostCards() {
        SpliceBench x = Benches.ofAllKinds();
        for (int k = 0; k < 2000; k++) {
            due.is("one of 2,000", x.put(4, k % 5, k + 1), 1);
        }
        due.is("behind 2,000", x.put(4, 0, 5), 0);
        due.is("ahead of beyond", x.put(4, 9, 5), 0);
        due.is("ahead of wrong", x.put(5, 0, 5), 0);
        due.is("nothing changed", x.number(4, 0), 1996);
        due.is("cards put", x.count(7), 2000);
        due.is("still beyond for a blank", x.put(4, 9, 0), -3);
        due.is("still empty", x.put(4, 0, 0), 1);
        due.is("still a number", x.put(2, 0, 5), 1);
        due.is("still a label", x.put(1, 0, 5), 1);
        due.is("still missing", x.put(0, 0, 5), -1);
        due.is("still refused", x.put(10, 0, 5), -9);
    }
}
