/**
 * A film cutter's bench of ten spindles: what they hold, the motions, gaps and closings of its
 * places, and the way back from the latest of these.
 */
public final class SpliceBench {
    public static final int NONE = -1;

    private static final int SPINDLES = 10;
    private static final int MOST_PLACES = 80;
    private static final int MOST_MADE = 600;
    private static final int MOST_CARDS = 2000;

    private static final int NOTHING = 0;
    private static final int LABEL = 1;
    private static final int PICTURES = 2;
    private static final int SOUND = 3;
    private static final int CARDS = 4;
    private static final int SLIDES = 5;

    private static final int FINE = 0;
    private static final int MISSING = 1;
    private static final int UNLIKE = 2;
    private static final int BEYOND = 3;
    private static final int WRONG = 4;
    private static final int REFUSED = -9;

    private static final int EMPTY_PLACE = 0;
    private static final int NUMBER_PLACE = 1;
    private static final int PLAIN_PLACE = 2;
    private static final int SLIDE_PLACE = 3;

    private final Holding[] spindles = new Holding[SPINDLES];
    /** How many motions, gaps and closings ended so, by FINE and the failures' numbers. */
    private final int[] endings = new int[WRONG + 1];
    private int come = 0;
    private int made = 0;
    private int cardsPut = 0;

    private Holding covered = null;
    // Only one thing is covered at a time, so one row of each sort is enough for all calls; the
    // row of SOUND is wide enough for PICTURES, that of CARDS takes SLIDES.
    private final Holding coveredStrip = new Holding(SOUND, MOST_PLACES, 0);
    private final Holding coveredRack = new Holding(CARDS, MOST_PLACES, 0);

    public SpliceBench() {
        Holding nothing = new Holding(NOTHING, 0, 0);
        for (int s = 0; s < SPINDLES; s++) {
            spindles[s] = nothing;
        }
    }

    public int hold(int s, int kind, int n) {
        if (!isSpindle(s)) {
            return REFUSED;
        }
        if (kind < NOTHING || kind > SLIDES || made >= MOST_MADE) {
            return 0;
        }
        if (kind == NOTHING || kind == LABEL) {
            spindles[s] = new Holding(kind, 0, n);
            return 1;
        }
        if (n < 0 || n > MOST_PLACES) {
            return 0;
        }
        spindles[s] = new Holding(kind, n, 0);
        made++;
        return 1;
    }

    public int thread(int s, int from) {
        if (!isSpindle(s) || !isSpindle(from)) {
            return REFUSED;
        }
        spindles[s] = spindles[from];
        return spindles[s].kind;
    }

    public int put(int s, int i, long v) {
        if (!isSpindle(s)) {
            return REFUSED;
        }
        Holding holding = spindles[s];
        if (holding.kind == NOTHING) {
            return -MISSING;
        }
        if (holding.kind == LABEL) {
            holding.label = (int) v;
            return 1;
        }
        if (holding.isRack()) {
            return putCard(holding, i, v);
        }
        if (!holding.hasPlace(i)) {
            return -BEYOND;
        }
        holding.numbers[i] = holding.kind == PICTURES ? (int) v : v;
        return 1;
    }

    private int putCard(Holding rack, int i, long v) {
        if (v != 0 && cardsPut >= MOST_CARDS) {
            return 0;
        }
        if (!rack.hasPlace(i)) {
            return -BEYOND;
        }
        if (v == 0) {
            rack.cards[i] = null;
            return 1;
        }
        Card card = new Card(v);
        if (!rack.admits(card)) {
            return -WRONG;
        }
        rack.cards[i] = card;
        cardsPut++;
        return 1;
    }

    public int move(int from, int i, int to, int j, int n) {
        if (!isSpindle(from) || !isSpindle(to)) {
            return REFUSED;
        }
        Holding source = spindles[from];
        Holding target = spindles[to];
        int failure = motionFailure(source, i, target, j, n);
        if (failure != FINE) {
            return end(failure, 0, -failure);
        }
        int admitted = target.countAdmitted(source, i, n);
        if (admitted > 0) {
            cover(target);
            target.copyFrom(source, i, j, admitted);
        }
        if (admitted < n) {
            return end(WRONG, admitted, -WRONG);
        }
        return end(FINE, n, n);
    }

    public int open(int s, int i, int n) {
        return shift(s, i, n, true);
    }

    public int close(int s, int i, int n) {
        return shift(s, i, n, false);
    }

    /** A gap (up) or a closing (down). */
    private int shift(int s, int i, int n, boolean up) {
        if (!isSpindle(s)) {
            return REFUSED;
        }
        Holding holding = spindles[s];
        // Both fail as a motion from these places to themselves would.
        int failure = motionFailure(holding, i, holding, i, n);
        if (failure != FINE) {
            return end(failure, 0, -failure);
        }
        int shifted = holding.places - i - n;
        cover(holding);
        if (up) {
            holding.copyFrom(holding, i, i + n, shifted);
            holding.makeBlank(i, n);
        } else {
            holding.copyFrom(holding, i + n, i, shifted);
            holding.makeBlank(i + shifted, n);
        }
        return end(FINE, shifted, 1);
    }

    public int back() {
        if (covered == null) {
            return 0;
        }
        covered.copyFrom(rowBehind(covered), 0, 0, covered.places);
        covered = null;
        return 1;
    }

    public int count(int what) {
        switch (what) {
            case 0:
                return come;
            case 1:
                return endings[MISSING];
            case 2:
                return endings[UNLIKE];
            case 3:
                return endings[BEYOND];
            case 4:
                return endings[WRONG];
            case 5:
                return endings[FINE];
            case 6:
                return made;
            case 7:
                return cardsPut;
            case 8:
                return covered != null ? 1 : 0;
            default:
                return NONE;
        }
    }

    public int held(int s, int what) {
        if (!isSpindle(s)) {
            return REFUSED;
        }
        Holding holding = spindles[s];
        switch (what) {
            case 0:
                return holding.kind;
            case 1:
                return holding.places;
            case 2:
                return holding.countFilled();
            default:
                return NONE;
        }
    }

    public int sort(int s, int i) {
        if (!isSpindle(s)) {
            return REFUSED;
        }
        Holding holding = spindles[s];
        if (!holding.hasPlace(i)) {
            return NONE;
        }
        if (holding.isStrip()) {
            return NUMBER_PLACE;
        }
        Card card = holding.cardAt(i);
        if (card == null) {
            return EMPTY_PLACE;
        }
        return card.slide ? SLIDE_PLACE : PLAIN_PLACE;
    }

    public long number(int s, int i) {
        if (!isSpindle(s)) {
            return 0;
        }
        Holding holding = spindles[s];
        if (holding.kind == LABEL) {
            return holding.label;
        }
        if (holding.isStrip()) {
            return holding.hasPlace(i) ? holding.numbers[i] : 0;
        }
        Card card = holding.cardAt(i);
        return card == null ? 0 : card.number;
    }

    public int show(int s) {
        if (!isSpindle(s)) {
            return REFUSED;
        }
        Holding holding = spindles[s];
        if (!holding.isRack()) {
            return NONE;
        }
        int standing = 0;
        for (int i = 0; i < holding.places; i++) {
            Card card = holding.cardAt(i);
            if (card != null) {
                card.shown++;
                standing++;
            }
        }
        return standing;
    }

    public int shown(int s, int i) {
        if (!isSpindle(s)) {
            return REFUSED;
        }
        Card card = spindles[s].cardAt(i);
        return card == null ? NONE : card.shown;
    }

    public int same(int s, int i, int t, int j) {
        if (!isSpindle(s) || !isSpindle(t)) {
            return REFUSED;
        }
        Holding one = spindles[s];
        Holding other = spindles[t];
        if (i < 0 && j < 0) {
            return one == other && one.kind != NOTHING ? 1 : 0;
        }
        Card card = one.cardAt(i);
        return card != null && card == other.cardAt(j) ? 1 : 0;
    }

    private static boolean isSpindle(int s) {
        return s >= 0 && s < SPINDLES;
    }

    private static int motionFailure(Holding source, int i, Holding target, int j, int n) {
        if (source.kind == NOTHING || target.kind == NOTHING) {
            return MISSING;
        }
        if (!source.isLike(target)) {
            return UNLIKE;
        }
        return source.hasPlaces(i, n) && target.hasPlaces(j, n) ? FINE : BEYOND;
    }

    private int end(int ending, int came, int answer) {
        endings[ending]++;
        come = came;
        return answer;
    }

    private void cover(Holding holding) {
        rowBehind(holding).copyFrom(holding, 0, 0, holding.places);
        covered = holding;
    }

    private Holding rowBehind(Holding holding) {
        return holding.isRack() ? coveredRack : coveredStrip;
    }

    /** A plain card or a slide: one object wherever it stands. */
    private static final class Card {
        final long number;
        final boolean slide;
        int shown = 0;

        Card(long number) {
            this.number = number;
            this.slide = (number & 1) == 0;
        }
    }

    /** What a spindle holds. Both rows are always there, so that none of them is ever null. */
    private static final class Holding {
        final int kind;
        final int places;
        final long[] numbers;
        final Card[] cards;
        int label;

        /** The places are 0 .. MOST_PLACES, and 0 of nothing and of a label. */
        Holding(int kind, int places, int label) {
            this.kind = kind;
            this.places = places;
            this.label = label;
            this.numbers = new long[isStrip() ? places : 0];
            this.cards = new Card[isRack() ? places : 0];
        }

        boolean isStrip() {
            return kind == PICTURES || kind == SOUND;
        }

        boolean isRack() {
            return kind == CARDS || kind == SLIDES;
        }

        boolean isLike(Holding other) {
            return isRack() ? other.isRack() : isStrip() && kind == other.kind;
        }

        boolean hasPlace(int i) {
            return i >= 0 && i < places;
        }

        boolean hasPlaces(int i, int n) {
            // i + n could wrap around; places - i can't.
            return i >= 0 && n >= 0 && n <= places - i;
        }

        /** Null when there is no such place, none for cards, or an empty one. */
        Card cardAt(int i) {
            return isRack() && hasPlace(i) ? cards[i] : null;
        }

        boolean admits(Card card) {
            return kind != SLIDES || card == null || card.slide;
        }

        /** How many of the n places from i on can come from the source ahead of a wrong card. */
        int countAdmitted(Holding source, int i, int n) {
            for (int k = 0; k < n; k++) {
                if (!admits(source.cardAt(i + k))) {
                    return k;
                }
            }
            return n;
        }

        /** Right for a source that is this one, too: arraycopy minds places that overlap. */
        void copyFrom(Holding source, int i, int j, int n) {
            if (!source.hasPlaces(i, n) || !hasPlaces(j, n)) {
                return;
            }
            if (isRack() && source.isRack()) {
                System.arraycopy(source.cards, i, cards, j, n);
            } else if (isStrip() && source.isStrip()) {
                System.arraycopy(source.numbers, i, numbers, j, n);
            }
        }

        void makeBlank(int i, int n) {
            if (!hasPlaces(i, n)) {
                return;
            }
            for (int k = i; k < i + n; k++) {
                if (isRack()) {
                    cards[k] = null;
                } else if (isStrip()) {
                    numbers[k] = 0;
                }
            }
        }

        int countFilled() {
            int filled = 0;
            for (int i = 0; i < places; i++) {
                if (isStrip() ? numbers[i] != 0 : cardAt(i) != null) {
                    filled++;
                }
            }
            return filled;
        }
    }
}
