/** Promises 7 to 10. */
public final class LotsAndMixturesTest {
    public static void main(String[] args) {
        lot();
        mixWrongly();
        mixFully();
        carbonAndFineness();
        mixture();
        Due.end();
    }

    private static void lot() {
        Graphline x = new Graphline();
        Due.badArgument(() -> x.lot('b', 90, 3, 100));
        Due.badArgument(() -> x.lot('G', 90, 3, 100));
        Due.badArgument(() -> x.lot('g', 49, 3, 100));
        Due.badArgument(() -> x.lot('g', 100, 3, 100));
        Due.badArgument(() -> x.lot('g', 90, 0, 100));
        Due.badArgument(() -> x.lot('g', 90, 10, 100));
        Due.badArgument(() -> x.lot('g', 90, 3, 0));
        Due.badArgument(() -> x.lot('g', 90, 3, 501));
        Due.same(0, x.lot('g', 50, 1, 1));
        Due.same(1, x.lot('c', 99, 9, 500));
        Due.same(1, x.kilos(0));
        Due.same(500, x.kilos(1));
        Due.outOfBounds(() -> x.kilos(2));
        Due.outOfBounds(() -> x.kilos(-1));
        Due.outOfBounds(() -> x.kilos(Integer.MAX_VALUE));
        Due.outOfBounds(() -> x.kilos(Integer.MIN_VALUE));
        for (int i = 2; i < 16; i++) {
            Due.same(i, x.lot('g', 60, 5, 10 + i));
        }
        Due.badState(() -> x.lot('g', 60, 5, 10));
        Due.badArgument(() -> x.lot('q', 60, 5, 10));
        Due.same(25, x.kilos(15));
        Due.outOfBounds(() -> x.kilos(16));
    }

    private static void mixWrongly() {
        Graphline x = new Graphline();
        x.lot('g', 90, 3, 30);
        x.lot('c', 80, 3, 20);
        Due.outOfBounds(() -> x.mix(2, 1, 0, 0, 0));
        Due.outOfBounds(() -> x.mix(0, 2, 1, 1, 1));
        Due.outOfBounds(() -> x.mix(-1, 1, 1, 1, 1));
        Due.outOfBounds(() -> x.mix(0, -1, 1, 1, 1));
        Due.badArgument(() -> x.mix(0, 1, 0, 1, 1));
        Due.badArgument(() -> x.mix(0, 1, 1, 0, 1));
        Due.badArgument(() -> x.mix(0, 1, 1, 1, 0));
        Due.badArgument(() -> x.mix(0, 1, 1, 1, 10));
        Due.badArgument(() -> x.mix(1, 0, -5, 1, 1));
        Due.unsupported(() -> x.mix(1, 0, 1, 1, 1));
        Due.unsupported(() -> x.mix(0, 0, 1, 1, 1));
        Due.unsupported(() -> x.mix(1, 1, 1, 1, 1));
        Due.unsupported(() -> x.mix(0, 1, 31, 1, 1));
        Due.unsupported(() -> x.mix(0, 1, 1, 21, 1));
        Due.unsupported(() -> x.mix(0, 1, Integer.MAX_VALUE, Integer.MAX_VALUE, 1));
        x.on('m', false);
        Due.unsupported(() -> x.mix(0, 1, 1, 1, 1));
        x.on('m', true);
        x.shaft(false);
        Due.unsupported(() -> x.mix(0, 1, 1, 1, 1));
        x.shaft(true);
        x.belt('m', 'c');
        x.on('c', false);
        Due.unsupported(() -> x.mix(0, 1, 1, 1, 1));
        x.on('c', true);
        x.on('p', false);
        x.on('g', false);
        Due.same(0, x.mix(0, 1, 30, 20, 9));
        Due.same(0, x.kilos(0));
        Due.same(0, x.kilos(1));
        Due.same(50, x.mixture(0, 'k'));
    }

    private static void mixFully() {
        Graphline x = new Graphline();
        x.lot('g', 90, 3, 100);
        x.lot('c', 80, 3, 100);
        for (int i = 0; i < 12; i++) {
            Due.same(i, x.mix(0, 1, 2, 3, 1));
            Due.same(100 - 2 * (i + 1), x.kilos(0));
            Due.same(100 - 3 * (i + 1), x.kilos(1));
        }
        Due.badState(() -> x.mix(0, 1, 2, 3, 1));
        Due.unsupported(() -> x.mix(0, 1, 77, 3, 1));
        Due.badArgument(() -> x.mix(0, 1, 0, 3, 1));
        Due.outOfBounds(() -> x.mix(0, 2, 0, 3, 1));
        Due.same(5, x.mixture(11, 'k'));
        Due.outOfBounds(() -> x.mixture(12, 'k'));
    }

    private static void carbonAndFineness() {
        mixes(50, 1, 1, 1, 500, 1, 0, 9);
        mixes(99, 9, 9, 500, 1, 9, 988, 6);
        mixes(90, 9, 9, 20, 10, 1, 600, 0);
        mixes(70, 9, 1, 1, 2, 1, 233, 1);
        mixes(70, 9, 2, 2, 1, 1, 466, 1);
        mixes(70, 9, 3, 3, 4, 1, 300, 0);
        mixes(70, 7, 5, 3, 4, 2, 300, 3);
        mixes(70, 7, 6, 3, 4, 2, 300, 2);
        mixes(70, 5, 9, 3, 4, 4, 300, 5);
        mixes(70, 1, 3, 3, 4, 2, 300, 9);
    }

    private static void mixes(int purity, int size, int claySize, int kilos, int more, int days, int carbon, int fineness) {
        Graphline x = new Graphline();
        x.lot('c', 55, claySize, 500);
        x.lot('g', purity, size, 500);
        Due.same(0, x.mix(1, 0, kilos, more, days));
        Due.same(carbon, x.mixture(0, 'c'));
        Due.same(fineness, x.mixture(0, 'f'));
        Due.same(kilos + more, x.mixture(0, 'k'));
    }

    private static void mixture() {
        Graphline x = Bench.mixed().told();
        Due.same(891, x.mixture(0, 'c'));
        Due.same(9, x.mixture(0, 'f'));
        Due.same(100, x.mixture(0, 'k'));
        x.press(0, 0, 30);
        Due.same(70, x.mixture(0, 'k'));
        Due.badArgument(() -> x.mixture(0, 'x'));
        Due.badArgument(() -> x.mixture(0, 'K'));
        Due.outOfBounds(() -> x.mixture(1, 'x'));
        Due.outOfBounds(() -> x.mixture(-1, 'c'));
        Due.outOfBounds(() -> x.mixture(Integer.MIN_VALUE, 'c'));
    }
}
