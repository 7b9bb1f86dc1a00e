/** Promises 24 to 31. */
public final class PencilsTest {
    public static void main(String[] args) {
        layWrongly();
        layReady();
        fit();
        shapes();
        layFully();
        coat();
        stamp();
        stampDraws();
        stampOf0();
        erase();
        run();
        fall();
        fallOffCentre();
        sample();
        sampleByZ();
        seed();
        Due.end();
    }

    private static void layWrongly() {
        Graphline x = Bench.grooved().told();
        Due.outOfBounds(() -> x.lay(1, 0, 'x', 0, -1));
        Due.outOfBounds(() -> x.lay(0, 1, '6', 1, 0));
        Due.outOfBounds(() -> x.lay(-1, 0, '6', 1, 0));
        Due.outOfBounds(() -> x.lay(0, -1, '6', 1, 0));
        Due.badArgument(() -> x.lay(0, 0, '5', 1, 0));
        Due.badArgument(() -> x.lay(0, 0, (char) 6, 1, 0));
        Due.badArgument(() -> x.lay(0, 0, '6', 0, 0));
        Due.badArgument(() -> x.lay(0, 0, '6', 501, 0));
        Due.badArgument(() -> x.lay(0, 0, '6', 1, -1));
        Due.badArgument(() -> x.lay(0, 0, '6', 1, 10));
        Due.same(0, x.lay(0, 0, '6', 500, 0));
        Due.same(500, x.batch(0, 'n'));
        Due.same(1, x.lay(0, 0, '6', 499, 9));
        Due.same(1, x.batch(0, 'n'));
        Due.same(164, x.slat(0, 'n'));
        Due.unsupported(() -> x.lay(0, 0, '6', 2, 9));
        Due.same(2, x.lay(0, 0, '6', 1, 9));
        Due.same(0, x.batch(0, 'n'));
        Due.unsupported(() -> x.lay(0, 0, '6', 1, 9));
        x.slats('c', 0, 0, 500);
        Due.unsupported(() -> x.lay(0, 1, '6', 1, 0));
    }

    private static void layReady() {
        Graphline x = Bench.mixed().told();
        x.press(0, 0, 10);
        x.slats('c', 0, 0, 100);
        Due.unsupported(() -> x.lay(0, 0, '6', 1, 0));
        x.groove(0, 10);
        Due.unsupported(() -> x.lay(0, 0, '6', 1, 0));
        x.dry(0, 5);
        x.go(4);
        Due.unsupported(() -> x.lay(0, 0, '6', 1, 0));
        x.fire(0, 0, 700, 3);
        x.go(2);
        Due.unsupported(() -> x.lay(0, 0, '6', 1, 0));
        x.season(0, 2);
        x.go(1);
        Due.unsupported(() -> x.lay(0, 0, '6', 1, 0));
        x.go(1);
        Due.same(0, x.lay(0, 0, '6', 1, 0));
        Due.same(14, x.run(0, 'r'));
    }

    private static void fit() {
        Graphline x = Bench.fired().told();
        int[] widths = {8, 9, 10, 11, 12};
        for (int i = 0; i < widths.length; i++) {
            x.slats('c', 3 + i, 0, 100);
            x.groove(i, widths[i]);
        }
        Due.unsupported(() -> x.lay(0, 0, '6', 1, 0));
        Due.same(2 + 1, x.run(x.lay(0, 1, '6', 1, 0), 'o'));
        Due.same(0 + 1, x.run(x.lay(0, 2, '6', 1, 0), 'o'));
        Due.same(2 + 1, x.run(x.lay(0, 3, '6', 1, 0), 'o'));
        Due.unsupported(() -> x.lay(0, 4, '6', 1, 0));
        Graphline worn = new Graphline();
        worn.lot('g', 90, 9, 500);
        worn.lot('c', 80, 9, 500);
        worn.mix(0, 1, 400, 400, 1);
        worn.press(0, 0, 20);
        worn.press(0, 0, 5);
        Due.same(21, worn.batch(1, 'b'));
        worn.dry(1, 1);
        worn.go(18);
        worn.fire(1, 1, 800, 1);
        worn.go(1);
        worn.slats('b', 8, 0, 100);
        worn.slats('b', 9, 0, 100);
        worn.slats('b', 3, 0, 100);
        worn.groove(0, 10);
        worn.groove(1, 11);
        worn.groove(2, 9);
        Due.same(1 + 2, worn.run(worn.lay(1, 0, '0', 1, 0), 'o'));
        Due.same(1 + 2, worn.run(worn.lay(1, 1, '0', 1, 0), 'o'));
        Due.unsupported(() -> worn.lay(1, 2, '0', 1, 0));
    }

    private static void shapes() {
        lays('6', 6, 2);
        lays('6', 7, 4);
        lays('6', 1, 2);
        lays('6', 150, 50);
        lays('0', 5, 2);
        lays('0', 6, 4);
        lays('0', 250, 100);
        lays('3', 7, 2);
        lays('3', 8, 4);
        lays('3', 350, 100);
    }

    private static void lays(char shape, int many, int slats) {
        Graphline x = Bench.fired().told();
        x.slats('c', 0, 0, slats);
        x.slats('c', 0, 0, slats - 1);
        x.slats('c', 0, 0, slats + 1);
        for (int i = 0; i < 3; i++) {
            x.groove(i, 10);
        }
        Due.unsupported(() -> x.lay(0, 1, shape, many, 0));
        Due.same(0, x.lay(0, 0, shape, many, 0));
        Due.same(0, x.slat(0, 'n'));
        Due.same(1, x.lay(0, 2, shape, many, 0));
        Due.same(1, x.slat(2, 'n'));
        Due.same(many, x.run(0, 'n'));
        Due.same(1000 - 2 * many, x.batch(0, 'n'));
    }

    private static void layFully() {
        Graphline x = Bench.grooved().told();
        for (int i = 0; i < 16; i++) {
            Due.same(i, x.lay(0, 0, '6', 1, 0));
        }
        Due.badState(() -> x.lay(0, 0, '6', 1, 0));
        x.slats('c', 0, 0, 500);
        Due.unsupported(() -> x.lay(0, 1, '6', 1, 0));
        Due.badArgument(() -> x.lay(0, 0, 'x', 1, 0));
        Due.outOfBounds(() -> x.lay(1, 0, 'x', 1, 0));
    }

    private static void coat() {
        Graphline x = Bench.laid(100).told();
        Due.outOfBounds(() -> x.coat(1, 10));
        Due.outOfBounds(() -> x.coat(-1, 0));
        Due.badArgument(() -> x.coat(0, -1));
        Due.badArgument(() -> x.coat(0, 10));
        Due.unsupported(() -> x.coat(0, 0));
        x.go(5);
        Due.unsupported(() -> x.coat(0, 0));
        x.go(1);
        Due.same(-1, x.run(0, 'l'));
        x.on('c', false);
        Due.unsupported(() -> x.coat(0, 0));
        x.on('c', true);
        x.shaft(false);
        Due.unsupported(() -> x.coat(0, 0));
        x.shaft(true);
        x.belt('c', 'p');
        x.on('p', false);
        Due.unsupported(() -> x.coat(0, 0));
        x.on('p', true);
        for (int i = 1; i <= 8; i++) {
            Due.same(i, x.coat(0, i));
            Due.same(i, x.run(0, 'c'));
            Due.same(i, x.run(0, 'l'));
            Due.same(25 + 8 * i, x.run(0, 'r'));
            Due.unsupported(() -> x.coat(0, 0));
            x.go(7);
            Due.unsupported(() -> x.coat(0, 0));
            x.go(1);
        }
        Due.unsupported(() -> x.coat(0, 0));
        Due.badArgument(() -> x.coat(0, 10));
        Due.same(8, x.run(0, 'c'));
    }

    private static void stamp() {
        Graphline x = Bench.laid(100).told();
        x.go(6);
        Due.outOfBounds(() -> x.stamp(1));
        Due.outOfBounds(() -> x.stamp(-1));
        for (int i = 0; i < 3; i++) {
            Due.unsupported(() -> x.stamp(0));
            x.coat(0, 0);
            x.go(7);
            Due.unsupported(() -> x.stamp(0));
            x.go(1);
        }
        Due.same(-1, x.run(0, 'g'));
        Due.same(18, x.stamp(0));
        Due.same(18, x.run(0, 'g'));
        Due.unsupported(() -> x.stamp(0));
        Due.same(4, x.coat(0, 9));
        Due.same(57, x.run(0, 'r'));
    }

    private static void stampDraws() {
        Graphline x = Bench.coated(100).told();
        for (int i = 0; i < 8 * 5 - 1; i++) {
            x.draw(0);
        }
        x.lay(0, 0, '6', 10, 0);
        x.go(6);
        Bench.coats(x, 1);
        Due.same(18, x.stamp(0));
        Due.same(19, x.stamp(1));
        Due.same(15, x.check());
        Due.same(936, x.draw(0));
    }

    /** A grade of 0 is a stamp as well. */
    private static void stampOf0() {
        Graphline x = new Graphline();
        x.lot('g', 50, 9, 500);
        x.lot('c', 50, 9, 500);
        x.mix(0, 1, 1, 500, 1);
        x.press(0, 0, 10);
        x.dry(0, 1);
        x.go(18);
        x.fire(0, 0, 700, 1);
        x.go(1);
        x.slats('c', 0, 0, 100);
        x.groove(0, 10);
        x.lay(0, 0, '6', 60, 7);
        x.gross(0);
        x.go(6);
        Bench.coats(x, 0);
        Due.unsupported(() -> x.pack(0, 0, 1));
        Due.same(0, x.stamp(0));
        Due.unsupported(() -> x.stamp(0));
        Due.same(60, x.erase(0, 1));
        Due.same(60, x.pack(0, 0, 60));
        Due.same(true, x.claim(0));
    }

    private static void erase() {
        Graphline x = Bench.coated(100).told();
        Due.outOfBounds(() -> x.erase(1, 10));
        Due.outOfBounds(() -> x.erase(-1, 0));
        Due.badArgument(() -> x.erase(0, -1));
        Due.badArgument(() -> x.erase(0, 10));
        Due.unsupported(() -> x.erase(0, 0));
        x.stamp(0);
        x.coat(0, 1);
        x.fall(0, 9);
        x.sample(0, 3);
        Due.same(97, x.erase(0, 9));
        Due.unsupported(() -> x.erase(0, 0));
        Due.badArgument(() -> x.erase(0, 10));
        Due.same(50, Bench.stamped(50).told().erase(0, 0));
    }

    private static void run() {
        Graphline x = Bench.laid(100).told();
        Due.same(100, x.run(0, 'n'));
        Due.same(0, x.run(0, 'b'));
        Due.same(0, x.run(0, 'c'));
        Due.same(-1, x.run(0, 'l'));
        Due.same(-1, x.run(0, 'g'));
        Due.same(0, x.run(0, 'o'));
        Due.same(25, x.run(0, 'r'));
        Due.badArgument(() -> x.run(0, 'h'));
        Due.badArgument(() -> x.run(0, 'N'));
        Due.outOfBounds(() -> x.run(1, 'h'));
        Due.outOfBounds(() -> x.run(-1, 'n'));
        Due.outOfBounds(() -> x.run(Integer.MAX_VALUE, 'n'));
    }

    private static void fall() {
        Graphline x = Bench.laid(100).told();
        Due.outOfBounds(() -> x.fall(1, 0));
        Due.outOfBounds(() -> x.fall(-1, 1));
        Due.badArgument(() -> x.fall(0, 0));
        Due.badArgument(() -> x.fall(0, 10));
        Due.same(0, x.fall(0, 1));
        Due.same(0, x.fall(0, 4));
        Due.same(1, x.fall(0, 5));
        Due.same(41, x.fall(0, 9));
        Due.same(42, x.run(0, 'b'));
        Due.same(41, x.fall(0, 9));
        Due.same(17, x.fall(0, 9));
        Due.same(100, x.run(0, 'b'));
        Due.same(0, x.fall(0, 9));
        Due.same(197, Bench.laid(479).told().fall(0, 9));
        Due.same(0, Bench.laid(500).told().fall(0, 4));
        Graphline strong = Bench.laid(100).told();
        strong.soak(0, 5);
        Due.same(28, strong.fall(0, 9));
    }

    private static void fallOffCentre() {
        Graphline x = Bench.fired().told();
        x.slats('c', 8, 0, 200);
        x.groove(0, 9);
        x.lay(0, 0, '6', 100, 0);
        Due.same(4, x.run(0, 'o'));
        Due.same(1, x.fall(0, 3));
        Due.same(61, x.fall(0, 9));
        Due.same(38, x.fall(0, 9));
    }

    private static void sample() {
        Graphline x = Bench.laid(60).told();
        Due.outOfBounds(() -> x.sample(1, 0));
        Due.outOfBounds(() -> x.sample(-1, 1));
        Due.badArgument(() -> x.sample(0, 0));
        Due.badArgument(() -> x.sample(0, 51));
        Due.same(0, x.sample(0, 50));
        Due.same(10, x.run(0, 'n'));
        Due.unsupported(() -> x.sample(0, 11));
        for (int i = 0; i < 20; i++) {
            x.fall(0, 9);
        }
        Due.same(10, x.run(0, 'b'));
        Due.same(4, x.sample(0, 4));
        Due.same(6, x.sample(0, 6));
        Due.same(0, x.run(0, 'n'));
        Due.same(0, x.run(0, 'b'));
        Due.unsupported(() -> x.sample(0, 1));
        Due.same(0, x.missing());
    }

    /** The same walk of z, in wide numbers, over a run with 42 broken of 100. */
    private static void sampleByZ() {
        for (int first : new int[] {1, 2, 48271, 2147483646, 1234567890}) {
            Graphline x = Bench.laid(100).told();
            x.fall(0, 9);
            x.fall(0, 5);
            x.seed(first);
            long z = first;
            int left = 100;
            int broken = x.run(0, 'b');
            Due.same(42, broken);
            for (int many : new int[] {1, 30, 50, 19}) {
                int found = 0;
                for (int i = 0; i < many; i++) {
                    z = z * 48271L % 2147483647L;
                    if (z % left < broken) {
                        broken--;
                        found++;
                    }
                    left--;
                }
                Due.same(found, x.sample(0, many));
                Due.same(left, x.run(0, 'n'));
                Due.same(broken, x.run(0, 'b'));
            }
            Due.same(0, broken);
            Due.same((int) z, x.seed(1));
        }
    }

    private static void seed() {
        Graphline x = Bench.laid(10).told();
        Due.badArgument(() -> x.seed(0));
        Due.badArgument(() -> x.seed(-1));
        Due.badArgument(() -> x.seed(Integer.MAX_VALUE));
        Due.badArgument(() -> x.seed(Integer.MIN_VALUE));
        Due.same(1, x.seed(2147483646));
        Due.same(2147483646, x.seed(1));
        x.sample(0, 1);
        Due.same(48271, x.seed(7));
        Due.same(7, x.seed(7));
    }
}
