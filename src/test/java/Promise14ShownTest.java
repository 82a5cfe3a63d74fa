public final class Promise14ShownTest {
    public static void main(String[] args) {
        Due due = new Due();
        SpliceBench x = Benches.ofAllKinds();
        for (int kind = 4; kind <= 5; kind++) {
            x.put(kind, 4, 6);
            due.is("never", x.shown(kind, 4), 0);
            x.show(kind);
            x.show(kind);
            due.is("twice", x.shown(kind, 4), 2);
            due.is("an empty place", x.shown(kind, 0), -1);
            for (int i : new int[] {-1, 5, Benches.MIN, Benches.MAX}) {
                due.is("no such place", x.shown(kind, i), -1);
            }
        }
        x.put(2, 0, 6);
        x.put(3, 0, 6);
        for (int kind = 0; kind <= 3; kind++) {
            due.is("no card of kind " + kind, x.shown(kind, 0), -1);
        }
        for (int s : Benches.NO_SPINDLES) {
            due.is("shown of no spindle", x.shown(s, 0), -9);
        }
        due.end();
    }
}
