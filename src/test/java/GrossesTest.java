/** Promises 32 to 39. */
public final class GrossesTest {
    public static void main(String[] args) {
        gross();
        packWrongly();
        packReady();
        brokenGoLast();
        order();
        ship();
        shipLate();
        late();
        claim();
        claimByDarkness();
        parts();
        trace();
        Due.end();
    }

    private static void gross() {
        Graphline x = new Graphline();
        Due.badArgument(() -> x.gross(-1));
        Due.badArgument(() -> x.gross(20));
        for (int i = 0; i < 30; i++) {
            Due.same(i, x.gross(i % 20));
        }
        Due.badState(() -> x.gross(0));
        Due.badArgument(() -> x.gross(20));
        Due.same(0, x.parts(29));
        Due.outOfBounds(() -> x.parts(30));
    }

    private static void packWrongly() {
        Graphline x = Bench.stamped(200).told();
        x.gross(18);
        x.gross(17);
        Due.outOfBounds(() -> x.pack(2, 0, 0));
        Due.outOfBounds(() -> x.pack(0, 1, 0));
        Due.outOfBounds(() -> x.pack(-1, 0, 1));
        Due.outOfBounds(() -> x.pack(0, -1, 1));
        Due.badArgument(() -> x.pack(0, 0, 0));
        Due.badArgument(() -> x.pack(0, 0, 145));
        Due.badArgument(() -> x.pack(1, 0, -1));
        Due.unsupported(() -> x.pack(1, 0, 1));
        Due.same(100, x.pack(0, 0, 100));
        Due.same(100, x.run(0, 'n'));
        Due.unsupported(() -> x.pack(0, 0, 45));
        Due.same(144, x.pack(0, 0, 44));
        Due.same(56, x.run(0, 'n'));
        Due.unsupported(() -> x.pack(0, 0, 1));
        x.gross(18);
        Due.unsupported(() -> x.pack(2, 0, 57));
        Due.same(56, x.pack(2, 0, 56));
        Due.same(0, x.run(0, 'n'));
        Due.unsupported(() -> x.pack(2, 0, 1));
        x.order(18, 2, 9000);
        x.ship(0, 0);
        Due.unsupported(() -> x.pack(0, 0, 1));
        Due.same(0, x.missing());
    }

    private static void packReady() {
        Graphline x = Bench.coated(200).told();
        x.gross(18);
        Due.unsupported(() -> x.pack(0, 0, 1));
        x.stamp(0);
        x.coat(0, 1);
        Due.unsupported(() -> x.pack(0, 0, 1));
        x.go(7);
        Due.unsupported(() -> x.pack(0, 0, 1));
        x.go(1);
        Due.same(1, x.pack(0, 0, 1));
    }

    private static void brokenGoLast() {
        Graphline x = Bench.stamped(100).told();
        x.fall(0, 9);
        Due.same(41, x.run(0, 'b'));
        x.gross(18);
        x.gross(18);
        x.pack(0, 0, 50);
        Due.same(41, x.run(0, 'b'));
        x.pack(0, 0, 9);
        x.pack(1, 0, 1);
        x.pack(0, 0, 20);
        Due.same(20, x.run(0, 'b'));
        Due.same(20, x.run(0, 'n'));
        Due.same(0, x.trace(0, 0, 'x'));
        Due.same(0, x.trace(0, 1, 'x'));
        Due.same(20, x.trace(0, 2, 'x'));
        Due.same(1, x.trace(1, 0, 'x'));
        Graphline some = Bench.stamped(100).told();
        some.fall(0, 9);
        some.gross(18);
        some.pack(0, 0, 70);
        Due.same(11, some.trace(0, 0, 'x'));
        Due.same(70, some.trace(0, 0, 'n'));
        Due.same(30, some.run(0, 'b'));
        Due.same(0, some.fall(0, 9));
    }

    private static void order() {
        Graphline x = new Graphline();
        x.go(10);
        Due.badArgument(() -> x.order(-1, 1, 10));
        Due.badArgument(() -> x.order(20, 1, 10));
        Due.badArgument(() -> x.order(0, 0, 10));
        Due.badArgument(() -> x.order(0, 10, 10));
        Due.badArgument(() -> x.order(0, 1, 9));
        Due.badArgument(() -> x.order(0, 1, -1));
        Due.badArgument(() -> x.order(0, 1, Integer.MIN_VALUE));
        Due.badArgument(() -> x.order(0, 1, 10000));
        Due.badArgument(() -> x.order(0, 1, 270371432));
        Due.badArgument(() -> x.order(0, 1, Integer.MAX_VALUE));
        Due.same(0, x.order(0, 1, 10));
        Due.same(1, x.order(19, 9, 9999));
        for (int i = 2; i < 12; i++) {
            Due.same(i, x.order(1, 1, 11));
        }
        Due.badState(() -> x.order(1, 1, 11));
        Due.badArgument(() -> x.order(1, 1, 9));
        Due.badArgument(() -> x.order(1, 10, 11));
        Due.same(false, x.isLate(11));
        Due.badArgument(() -> x.order(1, 1, 10000));
        Due.outOfBounds(() -> x.isLate(12));
        Due.outOfBounds(() -> x.isLate(-1));
        orderAtTheLastHour();
    }

    private static void orderAtTheLastHour() {
        Graphline x = new Graphline();
        for (int i = 0; i < 19; i++) {
            x.go(500);
        }
        x.go(499);
        Due.badArgument(() -> x.order(0, 1, 9998));
        Due.badArgument(() -> x.order(0, 1, 10000));
        Due.same(0, x.order(0, 1, 9999));
        Due.same(false, x.isLate(0));
    }

    /** Grosses 0 and 1 are full and of grade 18, gross 2 is of 12 pencils, gross 3 of grade 17; the hour is 49. */
    private static Graphline packed() {
        Graphline x = Bench.stamped(300).told();
        x.gross(18);
        x.gross(18);
        x.gross(18);
        x.gross(17);
        x.pack(0, 0, 144);
        x.pack(1, 0, 144);
        x.pack(2, 0, 12);
        return x;
    }

    private static void ship() {
        Graphline x = packed();
        x.order(18, 1, 49);
        x.order(18, 3, 49);
        x.order(17, 1, 49);
        Due.outOfBounds(() -> x.ship(3, 0));
        Due.outOfBounds(() -> x.ship(0, 4));
        Due.outOfBounds(() -> x.ship(-1, 0));
        Due.outOfBounds(() -> x.ship(0, -1));
        Due.unsupported(() -> x.ship(0, 2));
        Due.unsupported(() -> x.ship(0, 3));
        Due.unsupported(() -> x.ship(2, 0));
        Due.same(2, x.ship(1, 1));
        Due.unsupported(() -> x.ship(1, 1));
        Due.unsupported(() -> x.ship(0, 1));
        Due.same(0, x.ship(0, 0));
        Due.unsupported(() -> x.ship(1, 0));
        Graphline full = packed();
        full.order(18, 1, 100);
        full.ship(0, 0);
        Due.unsupported(() -> full.ship(0, 1));
        Due.same(0, full.missing());
    }

    private static void shipLate() {
        Graphline x = packed();
        x.order(18, 2, 49);
        x.ship(0, 0);
        Due.same(false, x.isLate(0));
        x.go(1);
        Due.same(true, x.isLate(0));
        Due.same(0, x.ship(0, 1));
        Due.same(true, x.isLate(0));
    }

    private static void late() {
        Graphline x = packed();
        x.order(18, 2, 50);
        x.order(5, 1, 50);
        x.ship(0, 0);
        x.go(1);
        Due.same(false, x.isLate(0));
        Due.same(false, x.isLate(1));
        x.ship(0, 1);
        x.go(1);
        Due.same(false, x.isLate(0));
        Due.same(true, x.isLate(1));
    }

    private static void claim() {
        Graphline x = Bench.stamped(100).told();
        x.gross(18);
        x.gross(18);
        Due.outOfBounds(() -> x.claim(2));
        Due.outOfBounds(() -> x.claim(-1));
        Due.same(true, x.claim(0));
        x.pack(0, 0, 10);
        Due.same(true, x.claim(0));
        x.fall(0, 9);
        x.pack(0, 0, 10);
        Due.same(true, x.claim(0));
        x.pack(0, 0, 44);
        Due.same(1, x.trace(0, 2, 'x'));
        Due.same(false, x.claim(0));
        Due.same(true, x.claim(1));
    }

    /** A wax, or a wheel that has drifted, leads the grade of the darkness away from the stamp: by 1 it may, by 2 not. */
    private static void claimByDarkness() {
        Due.same(true, claimed(910, 0, 0));
        Due.same(true, claimed(910, 5, 0));
        Due.same(true, claimed(910, 0, 100));
        Due.same(false, claimed(749, 0, 17 * 8));
        Due.same(true, claimed(749, 0, 16 * 8));
        Due.same(true, claimed(749, 1, 17 * 8));
        Due.same(true, claimed(749, 5, 0));
        Due.same(true, claimed(700, 5, 0));
    }

    /** Whether a claim is true for pencils of such a darkness, stamped behind so many draws, then soaked in a wax, 0 for none. */
    private static boolean claimed(int darkness, int wax, int draws) {
        Graphline x = new Graphline();
        x.lot('g', 99, 9, 500);
        x.lot('c', 50, 9, 500);
        int graphite = carbonKilos(darkness);
        x.mix(0, 1, graphite, 500 - graphite, 1);
        int carbon = x.mixture(0, 'c');
        x.press(0, 0, 100);
        x.dry(0, 1);
        x.go(18);
        x.fire(0, 0, 700 + 10 * (carbon - darkness), 12);
        Due.same(darkness, x.batch(0, 'd'));
        x.go(12);
        x.slats('c', 0, 0, 500);
        x.groove(0, 10);
        x.lay(0, 0, '6', 100, 0);
        x.go(6);
        Bench.coats(x, 0);
        for (int i = 0; i < draws; i++) {
            x.draw(0);
        }
        x.gross(x.stamp(0));
        x.pack(0, 0, 10);
        if (wax > 0) {
            x.soak(0, wax);
        }
        return x.claim(0);
    }

    /** So many kilos of 500 are graphite of 99, for a carbon a little above the darkness. */
    private static int carbonKilos(int darkness) {
        int kilos = 1;
        while (990 * kilos / 500 < darkness) {
            kilos++;
        }
        return kilos;
    }

    private static void parts() {
        Graphline x = Bench.stamped(200).told();
        x.gross(18);
        x.gross(18);
        Due.outOfBounds(() -> x.parts(2));
        Due.outOfBounds(() -> x.parts(-1));
        Due.same(0, x.parts(0));
        for (int i = 1; i <= 144; i++) {
            Due.same(i, x.pack(0, 0, 1));
            Due.same(i, x.parts(0));
        }
        Due.same(0, x.parts(1));
        Due.same(1, x.trace(0, 143, 'n'));
        Due.outOfBounds(() -> x.trace(0, 144, 'n'));
    }

    private static void trace() {
        Graphline x = new Graphline();
        x.lot('c', 60, 5, 500);
        x.lot('g', 90, 5, 500);
        x.lot('c', 70, 5, 500);
        x.lot('g', 90, 5, 500);
        x.mix(1, 0, 50, 50, 5);
        x.mix(3, 2, 50, 50, 5);
        x.press(0, 0, 10);
        x.press(1, 1, 10);
        x.press(1, 2, 10);
        x.dry(1, 5);
        x.dry(2, 5);
        x.go(4);
        x.fire(2, 1, 700, 1);
        x.fire(1, 0, 700, 1);
        x.go(1);
        x.slats('c', 0, 0, 100);
        x.slats('c', 0, 0, 100);
        x.groove(0, 10);
        x.groove(1, 10);
        x.lay(1, 1, '6', 100, 3);
        x.lay(2, 0, '6', 100, 9);
        x.go(6);
        for (int i = 0; i < 3; i++) {
            x.coat(0, 1);
            x.coat(1, 1);
            x.go(8);
        }
        x.gross(0);
        int grade = x.stamp(0);
        Due.same(grade, x.stamp(1));
        x.gross(grade);
        x.pack(1, 1, 20);
        x.fall(0, 9);
        x.pack(1, 0, 100);
        traces(x, 0, new int[] {1, 20, 0, 2, 0, 1, 0, 9, 3, 2});
        traces(x, 1, new int[] {0, 100, x.trace(1, 1, 'x'), 1, 1, 0, 1, 3, 3, 2});
        Due.same(100 * Math.max(0, 360 - x.batch(1, 's')) / 400, x.trace(1, 1, 'x'));
        Due.badArgument(() -> x.trace(1, 0, 'q'));
        Due.badArgument(() -> x.trace(1, 0, 'R'));
        Due.outOfBounds(() -> x.trace(1, 2, 'q'));
        Due.outOfBounds(() -> x.trace(1, -1, 'r'));
        Due.outOfBounds(() -> x.trace(0, 0, 'r'));
        Due.outOfBounds(() -> x.trace(2, 0, 'q'));
        Due.outOfBounds(() -> x.trace(-1, 0, 'r'));
        Due.outOfBounds(() -> x.trace(1, Integer.MAX_VALUE, 'r'));
    }

    private static void traces(Graphline x, int part, int[] want) {
        String names = "rnxbfkshgc";
        for (int i = 0; i < want.length; i++) {
            Due.same(want[i], x.trace(1, part, names.charAt(i)));
        }
    }
}
