/** What the terms say of COVERED, as count(8) and back() tell it. */
public final class TermsCoveredTest {
    private static final Due due = new Due("Terms");

    public static void main(String[] args) {
        byMotion();
        byMotionOfNone();
        byGapOrClosing();
        notByFailures();
        whicheverWasLater();
        atFirst();
        behindBack();
        due.end();
    }

    /** What is covered stands on the spindle, and was so. */
    private static void covers(String what, SpliceBench x, int s, long... was) {
        due.is(what + ": count(8)", x.count(8), 1);
        due.is(what + ": back()", x.back(), 1);
        due.row(what + ", laid back", x, s, was);
    }

    private static void byMotion() {
        due.sentence("COVERED is the STRIP or RACK to which the latest MOTION went");
        for (int kind = 2; kind <= 5; kind++) {
            SpliceBench x = Benches.with(kind, 2, 4, 6);
            Benches.fill(x, 1, kind, 8, 10, 12);
            x.move(0, 0, 1, 1, 2);
            x.put(0, 0, 14);
            covers("where it went, not where it came from", x, 1, 8, 10, 12);
            due.row("where it came from", x, 0, 14, 4, 6);
            x.move(0, 0, 1, 0, 1);
            x.move(1, 1, 0, 0, 1);
            covers("the latest", x, 0, 14, 4, 6);
            due.row("not the one ahead of it", x, 1, 14, 10, 12);
            x.move(0, 0, 0, 0, 1);
            x.put(0, 2, 2);
            covers("to where it stands", x, 0, 14, 4, 6);
        }
    }

    private static void byMotionOfNone() {
        due.sentence("by which a place came");
        for (int kind = 2; kind <= 5; kind++) {
            SpliceBench x = Benches.with(kind, 2, 4, 6);
            Benches.fill(x, 1, kind, 8);
            due.is("a motion of no places", x.move(0, 0, 1, 0, 0), 0);
            due.is("it covers nothing", x.count(8), 0);
            x.close(0, 0, 1);
            x.move(0, 0, 1, 0, 0);
            covers("it leaves what is covered", x, 0, 2, 4, 6);
        }
        SpliceBench x = Benches.with(4, 2, 7);
        Benches.fill(x, 1, 5, 10, 12);
        due.is("a plain card first", x.move(0, 1, 1, 0, 1), -4);
        due.is("it covers nothing", x.count(8), 0);
        due.is("a plain card behind a slide", x.move(0, 0, 1, 0, 2), -4);
        due.row("the slide came", x, 1, 2, 12);
        x.move(0, 1, 1, 0, 1);
        covers("by the place that came", x, 1, 10, 12);
    }

    private static void byGapOrClosing() {
        due.sentence("or which had the latest GAP or CLOSING");
        for (int kind = 2; kind <= 5; kind++) {
            SpliceBench x = Benches.with(kind, 2, 4, 6);
            x.open(0, 1, 1);
            covers("a gap", x, 0, 2, 4, 6);
            x.close(0, 1, 1);
            covers("a closing", x, 0, 2, 4, 6);
            x.open(0, 0, 3);
            covers("a gap by which none come", x, 0, 2, 4, 6);
            x.close(0, 0, 3);
            covers("a closing by which none come", x, 0, 2, 4, 6);
            for (int i = 0; i <= 3; i++) {
                x.open(0, i, 0);
                x.put(0, 0, 8);
                covers("a gap of no places at " + i, x, 0, 2, 4, 6);
                x.close(0, i, 0);
                x.put(0, 2, 8);
                covers("a closing of no places at " + i, x, 0, 2, 4, 6);
            }
            x.hold(1, kind, 0);
            x.open(1, 0, 0);
            covers("a gap in no places", x, 0, 2, 4, 6);
            x.close(1, 0, 0);
            covers("a closing in no places", x, 0, 2, 4, 6);
        }
    }

    private static void notByFailures() {
        due.sentence("that did not fail");
        SpliceBench x = Benches.ofAllKinds();
        x.put(4, 0, 7);
        failAll(x);
        due.is("failures cover nothing", x.count(8), 0);
        due.is("failures: back()", x.back(), 0);
        Benches.fill(x, 6, 4, 1, 2);
        x.open(6, 0, 1);
        failAll(x);
        covers("failures leave what is covered", x, 6, 1, 2);
    }

    private static void failAll(SpliceBench x) {
        due.is("missing", x.move(0, 0, 2, 0, 1), -1);
        due.is("unlike", x.move(1, 0, 2, 0, 1), -2);
        due.is("beyond", x.move(2, 5, 2, 0, 1), -3);
        due.is("wrong", x.move(4, 0, 5, 0, 1), -4);
        due.is("a gap of nothing", x.open(0, 0, 0), -1);
        due.is("a gap of a label", x.open(1, 0, 0), -2);
        due.is("a gap beyond", x.open(2, 6, 0), -3);
        due.is("a closing of nothing", x.close(0, 0, 0), -1);
        due.is("a closing of a label", x.close(1, 0, 0), -2);
        due.is("a closing beyond", x.close(2, 0, 6), -3);
    }

    private static void whicheverWasLater() {
        due.sentence("(whichever of these was later");
        for (int kind = 2; kind <= 5; kind++) {
            for (int later = 0; later <= 2; later++) {
                for (int first = 0; first <= 2; first++) {
                    SpliceBench x = Benches.with(kind, 2, 4, 6);
                    Benches.fill(x, 1, 7 - kind, 8, 10, 12);
                    change(x, 0, first);
                    long[] ahead = {x.number(0, 0), x.number(0, 1), x.number(0, 2)};
                    change(x, 1, later);
                    covers(first + " of one, then " + later + " of another", x, 1, 8, 10, 12);
                    due.row("the first one's stays", x, 0, ahead);
                    change(x, 0, later);
                    covers("the same thing twice", x, 0, ahead);
                }
            }
        }
    }

    /** A motion, a gap or a closing. */
    private static void change(SpliceBench x, int s, int which) {
        if (which == 0) {
            x.move(s, 0, s, 1, 2);
        } else if (which == 1) {
            x.open(s, 0, 1);
        } else {
            x.close(s, 0, 1);
        }
    }

    private static void atFirst() {
        due.sentence("at first, and behind back(), nothing is)");
        SpliceBench x = new SpliceBench();
        due.is("at first: count(8)", x.count(8), 0);
        due.is("at first: back()", x.back(), 0);
        x = Benches.ofAllKinds();
        x.put(4, 0, 2);
        x.put(4, 0, 0);
        x.thread(0, 4);
        x.show(4);
        x.hold(4, 4, 3);
        due.is("not by other calls: count(8)", x.count(8), 0);
        due.is("not by other calls: back()", x.back(), 0);
    }

    private static void behindBack() {
        due.sentence("behind back(), nothing is)");
        for (int kind = 2; kind <= 5; kind++) {
            for (int which = 0; which <= 2; which++) {
                SpliceBench x = Benches.with(kind, 2, 4, 6);
                change(x, 0, 1);
                change(x, 0, which);
                x.back();
                due.is("behind back: count(8)", x.count(8), 0);
                String before = Benches.look(x);
                due.is("back() again", x.back(), 0);
                due.unchanged("back() again", x, before);
            }
        }
    }
}
