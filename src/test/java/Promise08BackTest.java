public final class Promise08BackTest {
    private static final Due due = new Due("Promise 8: back");

    public static void main(String[] args) {
        asItWas();
        wrongMotion();
        allPlaces();
        eightyPlaces();
        whereverItIsHeld();
        heldNowhere();
        nothingElse();
        nothingCovered();
        due.end();
    }

    private static void asItWas() {
        due.sentence("What is COVERED becomes what it was ahead of that MOTION, GAP or CLOSING");
        for (int kind = 2; kind <= 5; kind++) {
            SpliceBench x = Benches.with(kind, 2, -4, 0, 8);
            x.move(0, 0, 0, 1, 3);
            due.is("behind a motion", x.back(), 1);
            due.row("behind a motion", x, 0, 2, -4, 0, 8);
            x.open(0, 1, 2);
            due.is("behind a gap", x.back(), 1);
            due.row("behind a gap", x, 0, 2, -4, 0, 8);
            x.close(0, 1, 2);
            due.is("behind a closing", x.back(), 1);
            due.row("behind a closing", x, 0, 2, -4, 0, 8);
            x.close(0, 0, 1);
            x.close(0, 0, 1);
            due.is("behind two of them", x.back(), 1);
            due.row("behind two of them, ahead of the latter", x, 0, -4, 0, 8, 0);
        }
        SpliceBench x = Benches.with(3, Long.MIN_VALUE, Long.MAX_VALUE);
        x.open(0, 0, 2);
        x.back();
        due.row("sound of 64 bits", x, 0, Long.MIN_VALUE, Long.MAX_VALUE);
        Benches.fill(x, 0, 2, Benches.MIN, Benches.MAX);
        x.open(0, 0, 2);
        x.back();
        due.row("pictures of 32 bits", x, 0, Benches.MIN, Benches.MAX);
    }

    private static void wrongMotion() {
        due.sentence("what it was ahead of that MOTION");
        SpliceBench x = Benches.with(4, 2, 4, 7);
        Benches.fill(x, 1, 5, 10, 12, 14);
        due.is("a wrong motion", x.move(0, 0, 1, 0, 3), -4);
        due.row("two places came", x, 1, 2, 4, 14);
        due.is("back()", x.back(), 1);
        due.row("laid back", x, 1, 10, 12, 14);
    }

    private static void allPlaces() {
        due.sentence("all its places");
        for (int kind = 2; kind <= 5; kind++) {
            SpliceBench x = Benches.with(kind, 2, 4, 6, 0);
            x.move(0, 0, 0, 1, 1);
            x.put(0, 0, 0);
            x.put(0, 2, 20);
            x.put(0, 3, 22);
            due.is("back()", x.back(), 1);
            due.row("what was put later goes, too", x, 0, 2, 4, 6, 0);
        }
    }

    private static void eightyPlaces() {
        due.sentence("all its places");
        for (int kind = 2; kind <= 5; kind++) {
            SpliceBench x = new SpliceBench();
            x.hold(0, kind, 80);
            for (int i = 0; i < 80; i++) {
                x.put(0, i, 2 * i + 2);
            }
            Benches.fill(x, 1, kind, 4, 6);
            x.open(0, 0, 80);
            due.is("back of 80", x.back(), 1);
            for (int i = 0; i < 80; i++) {
                due.is("place " + i, x.number(0, i), 2 * i + 2);
            }
            x.open(1, 0, 2);
            due.is("back of 2, behind 80", x.back(), 1);
            due.row("back of 2, behind 80", x, 1, 4, 6);
            x.hold(2, kind, 0);
            x.open(2, 0, 0);
            due.is("back of none", x.back(), 1);
            due.is("back of none: places", x.held(2, 1), 0);
        }
    }

    private static void whereverItIsHeld() {
        due.sentence("wherever it is held: 1");
        for (int kind = 2; kind <= 5; kind++) {
            SpliceBench x = Benches.with(kind, 2, 4);
            x.thread(5, 0);
            x.thread(9, 0);
            x.close(0, 0, 1);
            x.hold(0, kind, 2);
            due.is("back()", x.back(), 1);
            due.row("on another spindle", x, 5, 2, 4);
            due.row("on a third one", x, 9, 2, 4);
            due.row("not what the spindle holds now", x, 0, 0, 0);
            x.close(5, 0, 1);
            x.thread(0, 9);
            x.hold(9, 0, 0);
            x.hold(5, 0, 0);
            due.is("back() of what went on", x.back(), 1);
            due.row("where it went on to", x, 0, 2, 4);
        }
    }

    private static void heldNowhere() {
        due.sentence("wherever it is held");
        for (int kind = 2; kind <= 5; kind++) {
            SpliceBench x = Benches.with(kind, 2, 4);
            x.close(0, 0, 1);
            x.hold(0, kind, 2);
            due.is("it is covered still", x.count(8), 1);
            due.is("back()", x.back(), 1);
            due.row("what is held now stays", x, 0, 0, 0);
            due.is("back() again", x.back(), 0);
        }
    }

    private static void nothingElse() {
        due.sentence("What is COVERED becomes");
        SpliceBench x = Benches.with(4, 1, 2, 3);
        Benches.fill(x, 1, 2, 4, 6, 8);
        x.open(1, 0, 1);
        x.close(0, 0, 1);
        x.show(0);
        due.is("back()", x.back(), 1);
        due.is("the card that was gone was not shown", x.shown(0, 0), 0);
        due.is("the card that was shown is so still", x.shown(0, 1), 1);
        due.row("another thing", x, 1, 0, 4, 6);
        due.is("COME", x.count(0), 2);
        due.is("how many did not fail", x.count(5), 2);
        due.is("made", x.count(6), 2);
        due.is("cards that came", x.count(7), 3);
    }

    private static void nothingCovered() {
        due.sentence("0 when nothing is COVERED.");
        SpliceBench x = new SpliceBench();
        due.is("at first", x.back(), 0);
        x = Benches.with(4, 2, 7);
        Benches.fill(x, 1, 5, 4, 6);
        x.move(0, 0, 1, 0, 0);
        x.move(0, 1, 1, 0, 1);
        x.open(0, 3, 0);
        String before = Benches.look(x);
        due.is("behind those that cover nothing", x.back(), 0);
        due.unchanged("behind those that cover nothing", x, before);
        x.open(0, 0, 1);
        x.back();
        before = Benches.look(x);
        due.is("behind back()", x.back(), 0);
        due.is("behind back() twice", x.back(), 0);
        due.unchanged("behind back()", x, before);
    }
}
