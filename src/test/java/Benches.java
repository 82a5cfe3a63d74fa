/** Benches that several tests begin with. */
final class Benches {
    static final int MIN = Integer.MIN_VALUE;
    static final int MAX = Integer.MAX_VALUE;
    static final int[] NO_SPINDLES = {-1, 10, 11, MIN, MAX};

    private Benches() {
    }

    /** Spindle 0 holds the numbers in as many places of the kind, from place 0 on. */
    static SpliceBench with(int kind, long... numbers) {
        SpliceBench x = new SpliceBench();
        fill(x, 0, kind, numbers);
        return x;
    }

    static void fill(SpliceBench x, int s, int kind, long... numbers) {
        x.hold(s, kind, numbers.length);
        for (int i = 0; i < numbers.length; i++) {
            x.put(s, i, numbers[i]);
        }
    }

    /** On spindle k stands one of each kind k, the strips and racks with five blank places. */
    static SpliceBench ofAllKinds() {
        SpliceBench x = new SpliceBench();
        x.hold(1, 1, 77);
        for (int kind = 2; kind <= 5; kind++) {
            x.hold(kind, kind, 5);
        }
        return x;
    }
}
