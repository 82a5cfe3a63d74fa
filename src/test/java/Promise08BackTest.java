public final class Promise08BackTest {
    private static final Due due = new Due();

    public static void main(String[] args) {
        for (int kind = 2; kind <= 5; kind++) {
            afterEach(kind);
            allPlaces(kind);
            latestAlone(kind);
            emptyMotions(kind);
            wherever(kind);
        }
        manyPlaces();
        failuresDoNotCover();
        wrongMotionsCover();
        cardsKeepWhatTheyWereShown();
        whatStays();
        due.end();
    }

    private static void once(String what, SpliceBench x, int s, long... want) {
        due.is(what + ": covered", x.count(8), 1);
        due.is(what + ": back", x.back(), 1);
        due.row(what, x, s, want);
        due.is(what + ": nothing is covered", x.count(8), 0);
        due.is(what + ": back again", x.back(), 0);
        due.row(what + ", back again", x, s, want);
    }

    private static void afterEach(int kind) {
        SpliceBench x = Benches.with(kind, 2, 4, 6, 8);
        due.is("nothing covered at first", x.back(), 0);
        x.move(0, 0, 0, 1, 3);
        once("behind a motion", x, 0, 2, 4, 6, 8);
        x.open(0, 1, 2);
        once("behind a gap", x, 0, 2, 4, 6, 8);
        x.close(0, 1, 2);
        once("behind a closing", x, 0, 2, 4, 6, 8);
    }

    private static void allPlaces(int kind) {
        SpliceBench x = Benches.with(kind, 2, 4, 6, 8);
        x.move(0, 0, 0, 1, 1);
        x.put(0, 3, 20);
        x.put(0, 0, 0);
        once("what was put later goes, too", x, 0, 2, 4, 6, 8);
    }

    private static void latestAlone(int kind) {
        SpliceBench x = Benches.with(kind, 2, 4, 6);
        Benches.fill(x, 1, kind, 8, 10, 12);
        x.move(0, 0, 1, 0, 1);
        x.move(1, 2, 0, 0, 1);
        once("the latest motion's", x, 0, 2, 4, 6);
        due.row("not the one ahead of it", x, 1, 2, 10, 12);
        x.open(0, 0, 1);
        x.open(0, 0, 1);
        once("one of two gaps", x, 0, 0, 2, 4);
    }

    private static void emptyMotions(int kind) {
        SpliceBench x = Benches.with(kind, 2, 4, 6);
        x.move(0, 0, 0, 0, 0);
        due.is("a motion of no places covers nothing", x.count(8), 0);
        x.close(0, 0, 1);
        x.move(0, 0, 0, 0, 0);
        once("a motion of no places leaves what is covered", x, 0, 2, 4, 6);
        x.close(0, 0, 1);
        x.open(0, 1, 0);
        once("a gap of no places covers", x, 0, 4, 6, 0);
        x.close(0, 0, 1);
        x.close(0, 3, 0);
        once("a closing of no places covers", x, 0, 6, 0, 0);
        x.put(0, 0, 8);
        x.open(0, 0, 3);
        once("a gap by which none come covers", x, 0, 8, 0, 0);
        x.move(0, 0, 0, 0, 1);
        x.put(0, 0, 10);
        once("a motion in place covers", x, 0, 8, 0, 0);
    }

    private static void wherever(int kind) {
        SpliceBench x = Benches.with(kind, 2, 4);
        x.thread(5, 0);
        x.close(0, 0, 1);
        x.hold(0, kind, 2);
        due.is("held elsewhere", x.back(), 1);
        due.row("held elsewhere", x, 5, 2, 4);
        due.row("not what the spindle holds now", x, 0, 0, 0);
        x.close(5, 0, 1);
        x.hold(5, 0, 0);
        due.is("held nowhere: still covered", x.count(8), 1);
        due.is("held nowhere", x.back(), 1);
        due.is("held nowhere: no more", x.back(), 0);
    }

    private static void manyPlaces() {
        SpliceBench x = new SpliceBench();
        x.hold(0, 4, 80);
        for (int i = 0; i < 80; i++) {
            x.put(0, i, i + 1);
        }
        x.open(0, 0, 80);
        due.is("all 80 are blank", x.held(0, 2), 0);
        due.is("back of 80", x.back(), 1);
        for (int i = 0; i < 80; i++) {
            due.is("place " + i, x.number(0, i), i + 1);
        }
    }

    private static void failuresDoNotCover() {
        SpliceBench x = Benches.ofAllKinds();
        Benches.fill(x, 6, 4, 1, 2);
        x.move(6, 0, 5, 0, 1);
        due.is("a wrong motion of none covers nothing", x.count(8), 0);
        x.open(6, 0, 1);
        x.move(0, 0, 2, 0, 1);
        x.move(1, 0, 2, 0, 1);
        x.move(2, 9, 2, 0, 1);
        x.put(6, 0, 1);
        x.move(6, 0, 5, 0, 1);
        x.open(2, 6, 0);
        x.close(1, 0, 0);
        x.open(0, 0, 0);
        once("behind failures", x, 6, 1, 2);
    }

    private static void wrongMotionsCover() {
        SpliceBench x = Benches.with(4, 2, 4, 7);
        Benches.fill(x, 1, 5, 10, 12, 14);
        due.is("a wrong motion", x.move(0, 0, 1, 0, 3), -4);
        due.row("a wrong motion", x, 1, 2, 4, 14);
        once("behind a wrong motion", x, 1, 10, 12, 14);
    }

    private static void cardsKeepWhatTheyWereShown() {
        SpliceBench x = Benches.with(4, 1, 2);
        x.close(0, 0, 1);
        x.show(0);
        x.back();
        due.is("the card that was gone", x.shown(0, 0), 0);
        due.is("the card that was shown", x.shown(0, 1), 1);
        due.is("the cards that came", x.count(7), 2);
    }

    private static void whatStays() {
        SpliceBench x = Benches.with(2, 2, 4, 6);
        Benches.fill(x, 1, 4, 1, 3);
        x.open(1, 0, 1);
        x.open(0, 0, 1);
        x.back();
        due.row("another thing", x, 1, 0, 1);
        due.is("COME", x.count(0), 2);
        due.is("how many did not fail", x.count(5), 2);
        due.is("made", x.count(6), 2);
    }
}
