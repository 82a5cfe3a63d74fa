public final class Promise11SortTest {
    public static void main(String[] args) {
        Due due = new Due();
        SpliceBench x = Benches.ofAllKinds();
        for (int strip = 2; strip <= 3; strip++) {
            x.put(strip, 1, 8);
            due.is("a number that is 0", x.sort(strip, 0), 1);
            due.is("a number", x.sort(strip, 1), 1);
        }
        x.put(4, 0, 3);
        x.put(4, 4, 4);
        x.put(5, 4, 4);
        due.is("a plain card", x.sort(4, 0), 2);
        due.is("a slide among cards", x.sort(4, 4), 3);
        due.is("an empty place of cards", x.sort(4, 1), 0);
        due.is("a slide among slides", x.sort(5, 4), 3);
        due.is("an empty place of slides", x.sort(5, 0), 0);
        for (int kind = 2; kind <= 5; kind++) {
            for (int i : new int[] {-1, 5, Benches.MIN, Benches.MAX}) {
                due.is("no such place", x.sort(kind, i), -1);
            }
        }
        due.is("no place of nothing", x.sort(0, 0), -1);
        due.is("no place of a label", x.sort(1, 0), -1);
        for (int s : Benches.NO_SPINDLES) {
            due.is("sort of no spindle", x.sort(s, 0), -9);
        }
        due.end();
    }
}
