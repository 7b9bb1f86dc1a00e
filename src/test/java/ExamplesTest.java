/** The three examples of the document's "Terms". */
public final class ExamplesTest {
    public static void main(String[] args) {
        mixture();
        seasoning();
        belts();
        Due.end();
    }

    private static void mixture() {
        Graphline x = new Graphline();
        Due.same(0, x.lot('g', 90, 3, 100));
        Due.same(1, x.lot('c', 80, 3, 100));
        Due.same(0, x.mix(0, 1, 50, 50, 4));
        Due.same(450, x.mixture(0, 'c'));
        Due.same(9, x.mixture(0, 'f'));
    }

    private static void seasoning() {
        Graphline x = new Graphline();
        Due.same(0, x.slats('c', 4, 20, 100));
        Due.same(60, x.season(0, 60));
        Due.same(10, x.slat(0, 'w'));
        Due.same(60, x.slat(0, 'r'));
    }

    private static void belts() {
        Graphline x = new Graphline();
        Due.same('-', x.belt('c', 'g'));
        Due.same(true, x.on('g', false));
        Due.same(false, x.runs('c'));
        Due.same(true, x.runs('p'));
        Due.same(0, x.order(3, 1, 0));
        Due.same(false, x.isLate(0));
        Due.same(1, x.go(1));
        Due.same(true, x.isLate(0));
    }
}
