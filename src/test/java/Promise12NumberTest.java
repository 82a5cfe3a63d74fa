public final class Promise12NumberTest {
    public static void main(String[] args) {
        Due due = new Due();
        SpliceBench x = Benches.ofAllKinds();
        long wide = -0x123456789ABCDEFL;
        for (int kind = 2; kind <= 5; kind++) {
            x.put(kind, 0, 6);
            x.put(kind, 4, wide - 1);
            due.is("the first place", x.number(kind, 0), 6);
            due.is("the last place", x.number(kind, 4), kind == 2 ? (int) (wide - 1) : wide - 1);
            due.is("a blank place", x.number(kind, 2), 0);
            for (int i : new int[] {-1, 5, Benches.MIN, Benches.MAX}) {
                due.is("no such place", x.number(kind, i), 0);
            }
        }
        x.put(4, 1, wide);
        due.is("a plain card's", x.number(4, 1), wide);
        for (int i : new int[] {0, 1, -1, Benches.MIN, Benches.MAX}) {
            due.is("a label's, whatever i is", x.number(1, i), 77);
            due.is("of nothing", x.number(0, i), 0);
        }
        x.put(1, 0, -3);
        due.is("a label's below 0", x.number(1, 0), -3);
        for (int s : Benches.NO_SPINDLES) {
            due.is("of no spindle", x.number(s, 0), 0);
        }
        due.end();
    }
}
