/** Promises 40 to 44. */
public final class SumsTest {
    public static void main(String[] args) {
        missing();
        checksum();
        checksumOfAll();
        brokenShare();
        meanDarkness();
        isSound();
        Due.end();
    }

    private static void missing() {
        Graphline x = new Graphline();
        Due.same(0, x.missing());
        Graphline full = Bench.stamped(300).told();
        Due.same(0, full.missing());
        full.sample(0, 50);
        Due.same(0, full.missing());
        full.gross(18);
        full.pack(0, 0, 144);
        Due.same(0, full.missing());
        full.order(18, 1, 100);
        full.ship(0, 0);
        full.fall(0, 9);
        Due.same(0, full.missing());
    }

    private static void checksum() {
        Graphline x = new Graphline();
        Due.same(7L, x.checksum());
        x.lot('g', 99, 1, 500);
        x.lot('c', 50, 1, 500);
        x.mix(0, 1, 90, 10, 9);
        Due.same(7L, x.checksum());
        x.press(0, 0, 50);
        Due.same(7L * 31 * 31 * 31 + 1000L * 31 * 31, x.checksum());
        x.gross(3);
        Due.same((7L * 31 * 31 * 31 + 1000L * 31 * 31) * 31, x.checksum());
    }

    private static void checksumOfAll() {
        Graphline x = Bench.stamped(200).told();
        x.press(0, 1, 2);
        x.fall(0, 9);
        x.lay(0, 0, '6', 30, 1);
        x.gross(18);
        x.gross(18);
        x.pack(1, 0, 20);
        long[] steps = {770, 936, 195, 40, 0, 0, 180, 82, 30, 0, 0, 20};
        long want = 7;
        for (long step : steps) {
            want = 31 * want + step;
        }
        Due.same(want, x.checksum());
        Graphline many = Bench.mixed().told();
        long wrapped = 7;
        for (int i = 0; i < 16; i++) {
            many.press(0, 0, i + 1 > 9 ? 1 : i + 1);
            wrapped = ((31 * wrapped + many.batch(i, 'n')) * 31) * 31;
        }
        Due.same(wrapped, many.checksum());
    }

    private static void brokenShare() {
        Graphline x = Bench.grooved().told();
        Due.thrown(ArithmeticException.class, () -> x.brokenShare());
        x.lay(0, 0, '6', 100, 0);
        Due.same(0.0f, x.brokenShare());
        x.fall(0, 9);
        Due.same(41f / 100f, x.brokenShare());
        x.lay(0, 0, '6', 23, 0);
        Due.same(41f / 123f, x.brokenShare());
        Due.same(0.0f, Bench.laid(1).told().brokenShare());
        Graphline gone = Bench.laid(50).told();
        gone.sample(0, 50);
        Due.thrown(ArithmeticException.class, () -> gone.brokenShare());
    }

    private static void meanDarkness() {
        Graphline x = Bench.mixed().told();
        Due.thrown(ArithmeticException.class, () -> x.meanDarkness());
        x.press(0, 0, 1);
        x.press(0, 0, 1);
        x.press(0, 0, 1);
        x.press(0, 0, 1);
        x.dry(0, 5);
        x.dry(1, 5);
        x.dry(2, 5);
        x.go(4);
        Due.thrown(ArithmeticException.class, () -> x.meanDarkness());
        x.fire(0, 0, 700, 1);
        Due.same(936.0, x.meanDarkness());
        x.fire(1, 1, 1200, 1);
        Due.same(911.0, x.meanDarkness());
        x.go(1);
        x.fire(2, 0, 710, 1);
        Due.same(2757.0 / 3.0, x.meanDarkness());
        x.soak(0, 1);
        Due.same(2765.0 / 3.0, x.meanDarkness());
    }

    private static void isSound() {
        Graphline x = new Graphline();
        Due.same(true, x.isSound());
        x.belt('m', 'p');
        x.belt('p', 'g');
        x.belt('g', 'c');
        x.shaft(false);
        x.on('c', false);
        Due.same(true, x.isSound());
        Graphline full = Bench.stamped(300).told();
        full.gross(18);
        full.gross(4);
        full.pack(0, 0, 100);
        for (int i = 0; i < 9; i++) {
            full.fall(0, 9);
            Due.same(true, full.isSound());
        }
        Due.same(200, full.run(0, 'b'));
        full.sample(0, 50);
        full.pack(0, 0, 44);
        Due.same(true, full.isSound());
    }
}
