/** What the terms say of 'Refused', for every call that has a spindle. */
public final class TermsRefusedTest {
    private static final Due due = new Due("Terms");

    public static void main(String[] args) {
        due.sentence("Refused is a call with a spindle that there is not: -9");
        for (int s : Benches.NO_SPINDLES) {
            changes(new SpliceBench(), s);
            looks(new SpliceBench(), s);
            changes(Benches.filledOfAllKinds(), s);
            looks(Benches.filledOfAllKinds(), s);
        }
        nothingIsChanged();
        due.end();
    }

    private static void nothingIsChanged() {
        due.sentence("-9, and nothing is changed.");
        for (int s : Benches.NO_SPINDLES) {
            SpliceBench x = Benches.filledOfAllKinds();
            String before = Benches.look(x);
            changes(x, s);
            looks(x, s);
            due.unchanged("refused with spindle " + s, x, before);
            due.is("still covered", x.back(), 1);
            due.row("laid back", x, 4, 8, 7, 0, 0, -8);
        }
    }

    private static void changes(SpliceBench x, int s) {
        String at = " with spindle " + s;
        due.is("hold" + at, x.hold(s, 2, 3), -9);
        due.is("hold of nothing" + at, x.hold(s, 0, 0), -9);
        due.is("hold of no kind" + at, x.hold(s, 6, 81), -9);
        due.is("thread to" + at, x.thread(s, 4), -9);
        due.is("thread from" + at, x.thread(4, s), -9);
        due.is("thread" + at, x.thread(s, s), -9);
        due.is("put" + at, x.put(s, 0, 2), -9);
        due.is("put of a blank" + at, x.put(s, -1, 0), -9);
        due.is("move from" + at, x.move(s, 0, 4, 0, 1), -9);
        due.is("move to" + at, x.move(4, 0, s, 0, 1), -9);
        due.is("move" + at, x.move(s, -1, s, 0, 1), -9);
        due.is("move to nothing" + at, x.move(s, 0, 0, 0, 1), -9);
        due.is("move from nothing" + at, x.move(0, 0, s, 0, 1), -9);
        due.is("open" + at, x.open(s, 0, 1), -9);
        due.is("open beyond" + at, x.open(s, -1, 1), -9);
        due.is("close" + at, x.close(s, 0, 1), -9);
        due.is("close beyond" + at, x.close(s, -1, 1), -9);
        due.is("show" + at, x.show(s), -9);
    }

    private static void looks(SpliceBench x, int s) {
        String at = " with spindle " + s;
        for (int what = -1; what <= 3; what++) {
            due.is("held of " + what + at, x.held(s, what), -9);
        }
        due.is("sort" + at, x.sort(s, 0), -9);
        due.is("sort of no place" + at, x.sort(s, -1), -9);
        due.is("shown" + at, x.shown(s, 0), -9);
        due.is("shown of no place" + at, x.shown(s, -1), -9);
        due.is("same of places, first" + at, x.same(s, 0, 4, 0), -9);
        due.is("same of places, second" + at, x.same(4, 0, s, 0), -9);
        due.is("same of spindles, first" + at, x.same(s, -1, 4, -1), -9);
        due.is("same of spindles, second" + at, x.same(4, -1, s, -1), -9);
        due.is("same of neither" + at, x.same(s, 0, s, -1), -9);
    }
}
