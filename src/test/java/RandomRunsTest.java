import java.util.Random;

/** Runs of 512 calls, drawn from fixed seeds, on the class and on the model beside it. */
public final class RandomRunsTest {
    private static final int RUNS = 4000;
    private static final int CALLS = 512;
    private static final int[] EXTREMES = {Integer.MIN_VALUE, Integer.MIN_VALUE + 1, -80, -2, -1,
        79, 80, 81, Integer.MAX_VALUE - 1, Integer.MAX_VALUE};
    private static final long[] WIDE = {Long.MIN_VALUE, Long.MAX_VALUE, 1L << 31, 1L << 32,
        -(1L << 31) - 1, 0xFFFFFFFFL, -1, 9000000001L};

    private final Due due = new Due("Runs of 512 calls");
    private Random random;
    private SpliceBench x;
    private ModelBench y;
    private int spindles;
    private int sizes;

    public static void main(String[] args) {
        RandomRunsTest test = new RandomRunsTest();
        for (int run = 0; run < RUNS && test.due.allRight(); run++) {
            test.run(run);
        }
        test.due.end();
    }

    private void run(int seed) {
        random = new Random(seed);
        x = new SpliceBench();
        y = new ModelBench();
        // Few spindles and places bring calls to meet; many reach the edges.
        spindles = 2 + random.nextInt(9);
        sizes = random.nextInt(8) == 0 ? 80 : 1 + random.nextInt(8);
        for (int k = 0; k < CALLS && due.allRight(); k++) {
            String at = "seed " + seed + ", call " + k + ": ";
            if (random.nextInt(2) == 0) {
                change(at);
            } else {
                look(at);
            }
        }
    }

    private int spindle() {
        return random.nextInt(40) == 0 ? -1 + 11 * random.nextInt(2) : random.nextInt(spindles);
    }

    private int place() {
        int extreme = EXTREMES[random.nextInt(EXTREMES.length)];
        return random.nextInt(30) == 0 ? extreme : random.nextInt(sizes + 1);
    }

    private int length() {
        return random.nextInt(3) == 0 ? place() : random.nextInt(1 + sizes / 2);
    }

    private long value() {
        long wide = WIDE[random.nextInt(WIDE.length)];
        int near = random.nextInt(12) - 3;
        return random.nextInt(10) == 0 ? wide : random.nextInt(3) == 0 ? near : 2L * near;
    }

    private void change(String at) {
        int s = spindle();
        int t = spindle();
        int i = place();
        int j = place();
        int n = length();
        int kind = random.nextInt(30) == 0 ? place() : random.nextInt(6);
        long v = value();
        switch (random.nextInt(16)) {
            case 0 -> due.is(at + "hold(" + s + ", " + kind + ", " + i + ")",
                x.hold(s, kind, i), y.hold(s, kind, i));
            case 1 -> due.is(at + "thread(" + s + ", " + t + ")", x.thread(s, t), y.thread(s, t));
            case 2, 3, 4, 5 -> due.is(at + "put(" + s + ", " + i + ", " + v + ")",
                x.put(s, i, v), y.put(s, i, v));
            case 6, 7, 8, 9 -> due.is(
                at + "move(" + s + ", " + i + ", " + t + ", " + j + ", " + n + ")",
                x.move(s, i, t, j, n), y.move(s, i, t, j, n));
            case 10, 11 -> due.is(at + "open(" + s + ", " + i + ", " + n + ")",
                x.open(s, i, n), y.open(s, i, n));
            case 12 -> due.is(at + "close(" + s + ", " + i + ", " + n + ")",
                x.close(s, i, n), y.close(s, i, n));
            case 13 -> due.is(at + "back()", x.back(), y.back());
            default -> due.is(at + "show(" + s + ")", x.show(s), y.show(s));
        }
    }

    private void look(String at) {
        int s = spindle();
        int t = random.nextInt(2) == 0 ? s : spindle();
        int i = random.nextInt(4) == 0 ? -1 : place();
        int j = random.nextInt(2) == 0 ? i : place();
        int what = random.nextInt(12) - 1;
        switch (random.nextInt(6)) {
            case 0 -> due.is(at + "count(" + what + ")", x.count(what), y.count(what));
            case 1 -> due.is(at + "held(" + s + ", " + what % 4 + ")",
                x.held(s, what % 4), y.held(s, what % 4));
            case 2 -> due.is(at + "sort(" + s + ", " + i + ")", x.sort(s, i), y.sort(s, i));
            case 3 -> due.is(at + "number(" + s + ", " + i + ")", x.number(s, i), y.number(s, i));
            case 4 -> due.is(at + "shown(" + s + ", " + i + ")", x.shown(s, i), y.shown(s, i));
            default -> due.is(at + "same(" + s + ", " + i + ", " + t + ", " + j + ")",
                x.same(s, i, t, j), y.same(s, i, t, j));
        }
    }
}
