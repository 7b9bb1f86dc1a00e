/** Promises 20 to 23. */
public final class SlatsTest {
    public static void main(String[] args) {
        slats();
        season();
        wetness();
        groove();
        grooverRuns();
        slat();
        Due.end();
    }

    private static void slats() {
        Graphline x = new Graphline();
        Due.badArgument(() -> x.slats('g', 4, 20, 100));
        Due.badArgument(() -> x.slats('B', 4, 20, 100));
        Due.badArgument(() -> x.slats('c', -1, 20, 100));
        Due.badArgument(() -> x.slats('c', 10, 20, 100));
        Due.badArgument(() -> x.slats('c', 4, -1, 100));
        Due.badArgument(() -> x.slats('c', 4, 41, 100));
        Due.badArgument(() -> x.slats('c', 4, 20, 0));
        Due.badArgument(() -> x.slats('c', 4, 20, 501));
        Due.same(0, x.slats('c', 0, 0, 1));
        Due.same(1, x.slats('b', 9, 40, 500));
        for (int i = 2; i < 12; i++) {
            Due.same(i, x.slats('b', 3, 3, 3));
        }
        Due.badState(() -> x.slats('c', 4, 20, 100));
        Due.badArgument(() -> x.slats('x', 4, 20, 100));
        Due.same(3, x.slat(11, 'n'));
        Due.outOfBounds(() -> x.slat(12, 'n'));
    }

    private static void season() {
        Graphline x = new Graphline();
        x.slats('c', 4, 40, 100);
        x.go(10);
        Due.outOfBounds(() -> x.season(1, 0));
        Due.outOfBounds(() -> x.season(-1, 1));
        Due.badArgument(() -> x.season(0, 0));
        Due.badArgument(() -> x.season(0, 201));
        Due.same(0, x.slat(0, 'r'));
        Due.same(30, x.season(0, 20));
        Due.same(37, x.slat(0, 'w'));
        Due.unsupported(() -> x.season(0, 1));
        Due.badArgument(() -> x.season(0, 201));
        x.go(19);
        Due.unsupported(() -> x.season(0, 1));
        x.go(1);
        Due.same(31, x.season(0, 1));
        Due.same(37, x.slat(0, 'w'));
        x.go(1);
        Due.same(231, x.season(0, 200));
        Due.same(4, x.slat(0, 'w'));
    }

    private static void wetness() {
        seasons('c', 40, 5, 40);
        seasons('c', 40, 6, 39);
        seasons('c', 40, 11, 39);
        seasons('c', 20, 200, 0);
        seasons('c', 33, 200, 0);
        seasons('c', 34, 200, 1);
        seasons('b', 40, 8, 40);
        seasons('b', 40, 9, 39);
        seasons('b', 40, 17, 39);
        seasons('b', 22, 200, 0);
        seasons('b', 23, 200, 1);
        seasons('b', 0, 200, 0);
    }

    private static void seasons(char wood, int wetness, int hours, int then) {
        Graphline x = new Graphline();
        x.slats(wood, 0, wetness, 1);
        x.season(0, hours);
        Due.same(then, x.slat(0, 'w'));
        x.go(hours);
        Due.same(then, x.slat(0, 'w'));
    }

    private static void groove() {
        Graphline x = new Graphline();
        x.slats('c', 4, 16, 100);
        x.slats('b', 4, 10, 77);
        Due.outOfBounds(() -> x.groove(2, 0));
        Due.outOfBounds(() -> x.groove(-1, 10));
        Due.badArgument(() -> x.groove(0, 4));
        Due.badArgument(() -> x.groove(0, 31));
        Due.unsupported(() -> x.groove(0, 10));
        x.season(0, 30);
        Due.unsupported(() -> x.groove(0, 10));
        x.go(30);
        Due.same(11, x.slat(0, 'w'));
        Due.unsupported(() -> x.groove(0, 10));
        x.season(0, 6);
        Due.same(10, x.slat(0, 'w'));
        x.go(5);
        Due.unsupported(() -> x.groove(0, 10));
        x.go(1);
        Due.same(0, x.slat(0, 'g'));
        Due.same(100, x.groove(0, 5));
        Due.same(5, x.slat(0, 'g'));
        Due.unsupported(() -> x.groove(0, 10));
        Due.badArgument(() -> x.groove(0, 31));
        Due.same(77, x.groove(1, 30));
        Due.same(30, x.slat(1, 'g'));
        Due.same(38, x.season(1, 2));
    }

    private static void grooverRuns() {
        Graphline x = new Graphline();
        x.slats('c', 4, 0, 100);
        x.on('g', false);
        Due.unsupported(() -> x.groove(0, 10));
        x.on('g', true);
        x.shaft(false);
        Due.unsupported(() -> x.groove(0, 10));
        x.shaft(true);
        x.belt('g', 'm');
        x.on('m', false);
        Due.unsupported(() -> x.groove(0, 10));
        x.belt('g', '-');
        Due.same(100, x.groove(0, 10));
    }

    private static void slat() {
        Graphline x = Bench.laid(7).told();
        Due.same(496, x.slat(0, 'n'));
        Due.same(0, x.slat(0, 'w'));
        Due.same(10, x.slat(0, 'g'));
        Due.same(0, x.slat(0, 'r'));
        Due.badArgument(() -> x.slat(0, 'x'));
        Due.badArgument(() -> x.slat(0, 'G'));
        Due.outOfBounds(() -> x.slat(1, 'x'));
        Due.outOfBounds(() -> x.slat(-1, 'n'));
        Due.outOfBounds(() -> x.slat(Integer.MIN_VALUE, 'n'));
    }
}
