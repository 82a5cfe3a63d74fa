/** Benches that several tests begin with, and looks at them. */
final class Benches {
    static final int MIN = Integer.MIN_VALUE;
    static final int MAX = Integer.MAX_VALUE;
    static final int[] NO_SPINDLES = {-1, 10, 11, MIN, MAX};
    /** Of what has five places. */
    static final int[] NO_PLACES = {-1, 5, 6, MIN, MAX};
    static final int[] ANY_NUMBERS = {0, 1, -1, 80, 81, MIN, MAX};

    private Benches() {
    }

    /** Spindle 0 holds the numbers in as many places of the kind, from place 0 on. */
    static SpliceBench with(int kind, long... numbers) {
        SpliceBench x = new SpliceBench();
        fill(x, 0, kind, numbers);
        return x;
    }

    static void fill(SpliceBench x, int s, int kind, long... numbers) {
        x.hold(s, kind, numbers.length);
        for (int i = 0; i < numbers.length; i++) {
            x.put(s, i, numbers[i]);
        }
    }

    /** On spindle k stands one of each kind k, the strips and racks with five blank places. */
    static SpliceBench ofAllKinds() {
        SpliceBench x = new SpliceBench();
        x.hold(1, 1, 77);
        for (int kind = 2; kind <= 5; kind++) {
            x.hold(kind, kind, 5);
        }
        return x;
    }

    /** The same with numbers, slides and a plain card in the places, and one of them covered. */
    static SpliceBench filledOfAllKinds() {
        SpliceBench x = ofAllKinds();
        for (int kind = 2; kind <= 5; kind++) {
            x.put(kind, 0, 2 * kind);
            x.put(kind, 4, -2 * kind);
        }
        x.put(4, 1, 7);
        x.show(4);
        x.move(4, 0, 4, 2, 2);
        return x;
    }

    /** The counts, and spindles 0 to 5 with their first five places; 87 calls. */
    static String look(SpliceBench x) {
        StringBuilder seen = new StringBuilder();
        for (int what = 0; what <= 8; what++) {
            seen.append(x.count(what)).append(' ');
        }
        for (int s = 0; s <= 5; s++) {
            seen.append("| ");
            for (int what = 0; what <= 2; what++) {
                seen.append(x.held(s, what)).append(' ');
            }
            for (int i = 0; i < 5; i++) {
                seen.append(x.number(s, i)).append('/').append(x.shown(s, i)).append(' ');
            }
        }
        return seen.toString();
    }
}
