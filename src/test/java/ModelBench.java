/**
 * The document once more, held in Java's own arrays, whose arraycopy fails as a motion does: a
 * second opinion for RandomRunsTest. Unlike the class, it may catch what the machine throws.
 */
final class ModelBench {
    private static class Card {
        long number;
        int shown;
    }

    private static final class Slide extends Card {
    }

    private static final class Label {
        int number;
    }

    private final Object[] spindles = new Object[10];
    private final int[] counts = new int[8];
    private Object covered;
    private Object before;

    private static boolean none(int s) {
        return s < 0 || s > 9;
    }

    private static int places(Object thing) {
        if (thing instanceof int[] pictures) {
            return pictures.length;
        }
        if (thing instanceof long[] sound) {
            return sound.length;
        }
        return thing instanceof Card[] rack ? rack.length : 0;
    }

    private static Object copy(Object thing) {
        if (thing instanceof int[] pictures) {
            return pictures.clone();
        }
        return thing instanceof long[] sound ? sound.clone() : ((Card[]) thing).clone();
    }

    private Card card(int s, int i) {
        boolean there = spindles[s] instanceof Card[] && i >= 0 && i < places(spindles[s]);
        return there ? ((Card[]) spindles[s])[i] : null;
    }

    int hold(int s, int kind, int n) {
        if (none(s)) {
            return -9;
        }
        if (kind < 0 || kind > 5 || kind > 1 && (n < 0 || n > 80)) {
            return 0;
        }
        switch (kind) {
            case 0 -> spindles[s] = null;
            case 1 -> {
                Label label = new Label();
                label.number = n;
                spindles[s] = label;
            }
            case 2 -> spindles[s] = new int[n];
            case 3 -> spindles[s] = new long[n];
            case 4 -> spindles[s] = new Card[n];
            default -> spindles[s] = new Slide[n];
        }
        counts[6] += kind > 1 ? 1 : 0;
        return 1;
    }

    int thread(int s, int from) {
        if (none(s) || none(from)) {
            return -9;
        }
        spindles[s] = spindles[from];
        return held(s, 0);
    }

    int put(int s, int i, long v) {
        if (none(s)) {
            return -9;
        }
        Object thing = spindles[s];
        if (thing == null) {
            return -1;
        }
        try {
            if (thing instanceof Label label) {
                label.number = (int) v;
            } else if (thing instanceof int[] pictures) {
                pictures[i] = (int) v;
            } else if (thing instanceof long[] sound) {
                sound[i] = v;
            } else if (thing instanceof Card[] rack) {
                Card card = v % 2 == 0 ? new Slide() : new Card();
                card.number = v;
                rack[i] = v == 0 ? null : card;
                counts[7] += v == 0 ? 0 : 1;
            }
            return 1;
        } catch (ArrayIndexOutOfBoundsException beyond) {
            return -3;
        } catch (ArrayStoreException wrong) {
            return -4;
        }
    }

    int move(int from, int i, int to, int j, int n) {
        if (none(from) || none(to)) {
            return -9;
        }
        Object source = spindles[from];
        Object target = spindles[to];
        counts[0] = 0;
        if (source == null || target == null) {
            return failed(1);
        }
        Object ahead = target instanceof Label ? null : copy(target);
        try {
            System.arraycopy(source, i, target, j, n);
        } catch (IndexOutOfBoundsException beyond) {
            return failed(3);
        } catch (ArrayStoreException failure) {
            if (!(source instanceof Card[] && target instanceof Card[])) {
                return failed(2);
            }
            while (!(card(from, i + counts[0]) != null
                && card(from, i + counts[0]).getClass() == Card.class)) {
                counts[0]++;
            }
            coverIf(counts[0] > 0, target, ahead);
            return failed(4);
        }
        counts[0] = n;
        counts[5]++;
        coverIf(n > 0, target, ahead);
        return n;
    }

    private int failed(int failure) {
        counts[failure]++;
        return -failure;
    }

    private void coverIf(boolean came, Object thing, Object ahead) {
        if (came) {
            covered = thing;
            before = ahead;
        }
    }

    int open(int s, int i, int n) {
        return shift(s, i, n, true);
    }

    int close(int s, int i, int n) {
        return shift(s, i, n, false);
    }

    private int shift(int s, int i, int n, boolean gap) {
        if (none(s)) {
            return -9;
        }
        counts[0] = 0;
        Object thing = spindles[s];
        if (thing == null) {
            return failed(1);
        }
        if (thing instanceof Label) {
            return failed(2);
        }
        int places = places(thing);
        if (i < 0 || n < 0 || (long) i + n > places) {
            return failed(3);
        }
        Object ahead = copy(thing);
        for (int k = i; k < places; k++) {
            int origin = gap ? k - n : k + n;
            if (origin >= i && origin < places) {
                System.arraycopy(ahead, origin, thing, k, 1);
                counts[0]++;
            } else {
                blank(thing, k);
            }
        }
        counts[5]++;
        coverIf(true, thing, ahead);
        return 1;
    }

    private static void blank(Object thing, int k) {
        if (thing instanceof int[] pictures) {
            pictures[k] = 0;
        } else if (thing instanceof long[] sound) {
            sound[k] = 0;
        } else if (thing instanceof Card[] rack) {
            rack[k] = null;
        }
    }

    int back() {
        if (covered == null) {
            return 0;
        }
        System.arraycopy(before, 0, covered, 0, places(covered));
        covered = null;
        return 1;
    }

    int count(int what) {
        if (what == 8) {
            return covered == null ? 0 : 1;
        }
        return what < 0 || what > 8 ? -1 : counts[what];
    }

    int held(int s, int what) {
        if (none(s)) {
            return -9;
        }
        Object thing = spindles[s];
        if (what == 0) {
            return thing == null ? 0 : thing instanceof Label ? 1 : thing instanceof int[] ? 2
                : thing instanceof long[] ? 3 : thing instanceof Slide[] ? 5 : 4;
        }
        if (what == 1) {
            return places(thing);
        }
        int filled = 0;
        for (int i = 0; i < places(thing); i++) {
            filled += sort(s, i) > 1 || sort(s, i) == 1 && number(s, i) != 0 ? 1 : 0;
        }
        return what == 2 ? filled : -1;
    }

    int sort(int s, int i) {
        if (none(s)) {
            return -9;
        }
        if (i < 0 || i >= places(spindles[s])) {
            return -1;
        }
        if (!(spindles[s] instanceof Card[])) {
            return 1;
        }
        Card card = card(s, i);
        return card == null ? 0 : card instanceof Slide ? 3 : 2;
    }

    long number(int s, int i) {
        if (none(s)) {
            return 0;
        }
        if (spindles[s] instanceof Label label) {
            return label.number;
        }
        if (i < 0 || i >= places(spindles[s])) {
            return 0;
        }
        if (spindles[s] instanceof int[] pictures) {
            return pictures[i];
        }
        if (spindles[s] instanceof long[] sound) {
            return sound[i];
        }
        return card(s, i) == null ? 0 : card(s, i).number;
    }

    int show(int s) {
        if (none(s)) {
            return -9;
        }
        if (!(spindles[s] instanceof Card[] rack)) {
            return -1;
        }
        int standing = 0;
        for (Card card : rack) {
            if (card != null) {
                card.shown++;
                standing++;
            }
        }
        return standing;
    }

    int shown(int s, int i) {
        if (none(s)) {
            return -9;
        }
        return card(s, i) == null ? -1 : card(s, i).shown;
    }

    int same(int s, int i, int t, int j) {
        if (none(s) || none(t)) {
            return -9;
        }
        if (i < 0 && j < 0) {
            return spindles[s] != null && spindles[s] == spindles[t] ? 1 : 0;
        }
        return card(s, i) != null && card(s, i) == card(t, j) ? 1 : 0;
    }
}
