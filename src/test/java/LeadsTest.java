/** Promises 11 to 19. */
public final class LeadsTest {
    public static void main(String[] args) {
        pressWrongly();
        wear();
        wornTo199();
        pressFully();
        dry();
        warp();
        fire();
        kilns();
        strengthAndDarkness();
        soak();
        batch();
        draw();
        wheelDrifts();
        wheelEndsAt999();
        drawsNoDarkness();
        Due.end();
    }

    private static void pressWrongly() {
        Graphline x = Bench.mixed().told();
        Due.outOfBounds(() -> x.press(1, 4, 0));
        Due.outOfBounds(() -> x.press(-1, 0, 1));
        Due.badArgument(() -> x.press(0, -1, 1));
        Due.badArgument(() -> x.press(0, 4, 101));
        Due.badArgument(() -> x.press(0, Integer.MAX_VALUE, 1));
        Due.badArgument(() -> x.press(0, 0, 0));
        Due.badArgument(() -> x.press(0, 0, Integer.MIN_VALUE));
        Due.unsupported(() -> x.press(0, 0, 101));
        Due.unsupported(() -> x.press(0, 0, Integer.MAX_VALUE));
        x.on('p', false);
        Due.unsupported(() -> x.press(0, 0, 1));
        x.on('p', true);
        x.shaft(false);
        Due.unsupported(() -> x.press(0, 0, 1));
        x.shaft(true);
        x.on('m', false);
        Due.same(0, x.press(0, 0, 100));
        Due.same(2000, x.batch(0, 'n'));
        Due.same(0, x.mixture(0, 'k'));
        Due.unsupported(() -> x.press(0, 0, 1));
    }

    /** A mixture without fineness wears a die by two for each kilo. */
    private static Graphline coarse() {
        Graphline x = new Graphline();
        x.lot('g', 90, 9, 500);
        x.lot('c', 80, 9, 500);
        x.mix(0, 1, 500, 500, 1);
        return x;
    }

    private static void wear() {
        Graphline x = coarse();
        x.press(0, 3, 1);
        Due.same(2, x.worn(3));
        Due.same(0, x.worn(0));
        x.press(0, 3, 18);
        Due.same(38, x.worn(3));
        Due.same(20, x.batch(x.press(0, 3, 1), 'b'));
        Due.same(40, x.worn(3));
        Due.same(21, x.batch(x.press(0, 3, 79), 'b'));
        Due.same(198, x.worn(3));
        Due.same(24, x.batch(x.press(0, 3, 1), 'b'));
        Due.same(200, x.worn(3));
        Due.unsupported(() -> x.press(0, 3, 1));
        Due.same(20, x.batch(x.press(0, 2, 101), 'b'));
        Due.same(202, x.worn(2));
        Due.unsupported(() -> x.press(0, 2, 1));
        Due.same(200, x.renew(3));
        Due.same(0, x.worn(3));
        Due.same(202, x.worn(2));
        Due.same(0, x.renew(3));
        Due.same(20, x.batch(x.press(0, 3, 1), 'b'));
        for (int die : new int[] {-1, 4, Integer.MAX_VALUE, Integer.MIN_VALUE}) {
            Due.badArgument(() -> x.worn(die));
            Due.badArgument(() -> x.renew(die));
        }
        Due.same(2, x.renew(3));
        x.press(0, 0, 4);
        Due.same(8, x.renew(0));
        Graphline fine = Bench.mixed().told();
        fine.press(0, 1, 9);
        Due.same(1, fine.worn(1));
        fine.press(0, 1, 4);
        Due.same(1, fine.worn(1));
        fine.press(0, 1, 5);
        Due.same(2, fine.worn(1));
    }

    /** A fineness of 5 wears a die by one for each kilo. */
    private static void wornTo199() {
        Graphline x = new Graphline();
        x.lot('g', 90, 6, 500);
        x.lot('c', 80, 2, 500);
        x.mix(0, 1, 200, 200, 2);
        Due.same(5, x.mixture(0, 'f'));
        x.press(0, 0, 199);
        Due.same(199, x.worn(0));
        Due.same(24, x.batch(x.press(0, 0, 1), 'b'));
        Due.same(200, x.worn(0));
        Due.unsupported(() -> x.press(0, 0, 1));
    }

    private static void pressFully() {
        Graphline x = Bench.mixed().told();
        for (int i = 0; i < 16; i++) {
            Due.same(i, x.press(0, 0, 1));
            Due.same(20, x.batch(i, 'n'));
        }
        Due.badState(() -> x.press(0, 0, 1));
        Due.unsupported(() -> x.press(0, 0, 85));
        Due.badArgument(() -> x.press(0, 4, 1));
        Due.outOfBounds(() -> x.press(1, 0, 1));
        Due.same(84, x.mixture(0, 'k'));
    }

    private static void dry() {
        Graphline x = Bench.mixed().told();
        for (int i = 0; i < 6; i++) {
            x.press(0, 0, 1);
        }
        Due.outOfBounds(() -> x.dry(6, 0));
        Due.outOfBounds(() -> x.dry(-1, 1));
        Due.badArgument(() -> x.dry(0, 0));
        Due.badArgument(() -> x.dry(0, 6));
        Due.same(0, x.batch(0, 'r'));
        Due.same(18, x.dry(0, 1));
        Due.same(9, x.dry(1, 2));
        Due.same(6, x.dry(2, 3));
        x.go(100);
        Due.same(105, x.dry(3, 4));
        Due.same(104, x.dry(4, 5));
        Due.same(104, x.batch(4, 'r'));
        Due.same(18, x.batch(0, 'r'));
        Due.unsupported(() -> x.dry(0, 1));
        Due.badArgument(() -> x.dry(0, 6));
        for (int i = 0; i < 19; i++) {
            x.go(500);
        }
        x.go(399);
        Due.same(10017, x.dry(5, 1));
    }

    private static void warp() {
        Graphline x = coarse();
        x.press(0, 0, 50);
        x.press(0, 1, 29);
        x.press(0, 2, 800);
        x.dry(0, 1);
        Due.same(0, x.batch(0, 'w'));
        Due.same(1000, x.batch(0, 'n'));
        x.dry(1, 5);
        Due.same(46, x.batch(1, 'w'));
        Due.same(534, x.batch(1, 'n'));
        x.dry(2, 2);
        Due.same(320, x.batch(2, 'w'));
        Due.same(15680, x.batch(2, 'n'));
        Graphline most = coarse();
        most.press(0, 0, 1000);
        most.dry(0, 5);
        Due.same(1600, most.batch(0, 'w'));
        Due.same(18400, most.batch(0, 'n'));
        Graphline fine = Bench.mixed().told();
        fine.press(0, 0, 100);
        Due.same(0, fine.batch(0, 'w'));
        fine.dry(0, 3);
        Due.same(8, fine.batch(0, 'w'));
        Due.same(1992, fine.batch(0, 'n'));
    }

    private static void fire() {
        Graphline x = Bench.mixed().told();
        x.press(0, 0, 1);
        x.press(0, 0, 1);
        Due.outOfBounds(() -> x.fire(2, 2, 0, 0));
        Due.outOfBounds(() -> x.fire(-1, 0, 900, 1));
        Due.badArgument(() -> x.fire(0, -1, 900, 1));
        Due.badArgument(() -> x.fire(0, 2, 900, 1));
        Due.badArgument(() -> x.fire(0, 0, 699, 1));
        Due.badArgument(() -> x.fire(0, 0, 1201, 1));
        Due.badArgument(() -> x.fire(0, 0, 900, 0));
        Due.badArgument(() -> x.fire(0, 0, 900, 13));
        Due.unsupported(() -> x.fire(0, 0, 900, 1));
        x.dry(0, 1);
        Due.unsupported(() -> x.fire(0, 0, 900, 1));
        x.go(17);
        Due.unsupported(() -> x.fire(0, 0, 900, 1));
        x.go(1);
        Due.same(-1, x.batch(0, 'f'));
        Due.same(0, x.fire(0, 0, 900, 12));
        Due.same(0, x.batch(0, 'f'));
        Due.same(30, x.batch(0, 'r'));
        Due.unsupported(() -> x.fire(0, 1, 900, 1));
        x.go(12);
        Due.unsupported(() -> x.fire(0, 0, 900, 1));
        Due.badArgument(() -> x.fire(0, 2, 900, 1));
    }

    private static void kilns() {
        Graphline x = Bench.mixed().told();
        for (int i = 0; i < 4; i++) {
            x.press(0, 0, 1);
            x.dry(i, 5);
        }
        x.go(4);
        Due.same(0, x.fire(2, 1, 1200, 2));
        Due.unsupported(() -> x.fire(0, 1, 700, 1));
        Due.same(1, x.fire(0, 0, 700, 1));
        x.go(1);
        Due.unsupported(() -> x.fire(1, 1, 700, 1));
        Due.same(2, x.fire(1, 0, 700, 1));
        x.go(1);
        Due.same(3, x.fire(3, 1, 700, 1));
        Due.same(1, x.batch(0, 'f'));
        Due.same(2, x.batch(1, 'f'));
        Due.same(0, x.batch(2, 'f'));
        Due.same(3, x.batch(3, 'f'));
    }

    private static void strengthAndDarkness() {
        Graphline x = Bench.fired().told();
        Due.same(195, x.batch(0, 's'));
        Due.same(936, x.batch(0, 'd'));
        fires(90, 3, 4, 60, 40, 5, 900, 6, 348, 565);
        fires(90, 9, 9, 20, 10, 1, 1200, 12, 300, 550);
        fires(50, 1, 1, 1, 500, 9, 1200, 12, 840, 0);
        fires(50, 1, 1, 1, 499, 9, 1200, 12, 839, 0);
        fires(50, 9, 9, 1, 500, 1, 709, 1, 114, 0);
        fires(99, 1, 1, 500, 1, 9, 700, 1, 186, 999);
        fires(99, 1, 1, 500, 5, 9, 759, 3, 198, 999);
        fires(70, 7, 5, 3, 4, 2, 719, 4, 163, 314);
        fires(70, 7, 5, 3, 4, 2, 720, 4, 164, 313);
    }

    private static void fires(int purity, int size, int claySize, int kilos, int more, int days,
            int heat, int hours, int strength, int darkness) {
        Graphline x = new Graphline();
        x.lot('g', purity, size, 500);
        x.lot('c', 55, claySize, 500);
        x.mix(0, 1, kilos, more, days);
        x.press(0, 0, 1);
        x.dry(0, 1);
        x.go(18);
        Due.same(0, x.batch(0, 's'));
        Due.same(0, x.batch(0, 'd'));
        x.fire(0, 1, heat, hours);
        Due.same(strength, x.batch(0, 's'));
        Due.same(darkness, x.batch(0, 'd'));
    }

    private static void soak() {
        Graphline x = Bench.mixed().told();
        x.press(0, 0, 10);
        Due.outOfBounds(() -> x.soak(1, 0));
        Due.outOfBounds(() -> x.soak(-1, 1));
        Due.badArgument(() -> x.soak(0, 0));
        Due.badArgument(() -> x.soak(0, 6));
        Due.unsupported(() -> x.soak(0, 1));
        x.dry(0, 5);
        x.go(4);
        Due.unsupported(() -> x.soak(0, 1));
        x.fire(0, 0, 700, 2);
        x.go(1);
        Due.unsupported(() -> x.soak(0, 1));
        x.go(1);
        Due.same(200, x.batch(0, 's'));
        Due.same(250, x.soak(0, 5));
        Due.same(250, x.batch(0, 's'));
        Due.same(976, x.batch(0, 'd'));
        Due.unsupported(() -> x.soak(0, 1));
        Due.badArgument(() -> x.soak(0, 6));
        Due.same(6, x.batch(0, 'r'));
        Graphline dark = new Graphline();
        dark.lot('g', 99, 1, 500);
        dark.lot('c', 99, 1, 500);
        dark.mix(0, 1, 95, 5, 9);
        dark.press(0, 0, 1);
        dark.dry(0, 5);
        dark.go(4);
        dark.fire(0, 0, 700, 1);
        dark.go(1);
        Due.same(985, dark.batch(0, 'd'));
        Due.same(211, dark.soak(0, 2));
        Due.same(999, dark.batch(0, 'd'));
    }

    private static void batch() {
        Graphline x = Bench.mixed().told();
        x.press(0, 0, 10);
        Due.same(200, x.batch(0, 'n'));
        Due.same(0, x.batch(0, 'w'));
        Due.same(20, x.batch(0, 'b'));
        Due.same(0, x.batch(0, 'r'));
        Due.same(0, x.batch(0, 's'));
        Due.same(0, x.batch(0, 'd'));
        Due.same(-1, x.batch(0, 'f'));
        Due.badArgument(() -> x.batch(0, 'k'));
        Due.badArgument(() -> x.batch(0, 'N'));
        Due.outOfBounds(() -> x.batch(1, 'k'));
        Due.outOfBounds(() -> x.batch(-1, 'n'));
        Due.outOfBounds(() -> x.batch(Integer.MAX_VALUE, 'n'));
    }

    private static void draw() {
        Graphline x = Bench.mixed().told();
        x.press(0, 0, 10);
        Due.outOfBounds(() -> x.draw(1));
        Due.outOfBounds(() -> x.draw(-1));
        Due.unsupported(() -> x.draw(0));
        x.dry(0, 1);
        x.go(18);
        Due.unsupported(() -> x.draw(0));
        x.fire(0, 0, 700, 2);
        Due.unsupported(() -> x.draw(0));
        x.go(1);
        Due.unsupported(() -> x.draw(0));
        x.go(1);
        Due.same(936, x.draw(0));
        Due.same(200, x.batch(0, 'n'));
    }

    private static void wheelDrifts() {
        Graphline x = Bench.fired().told();
        for (int i = 0; i < 24; i++) {
            Due.same(936 + i / 8 * 3, x.draw(0));
        }
        Due.same(9, x.check());
        Due.same(0, x.check());
        for (int i = 0; i < 7; i++) {
            Due.same(936, x.draw(0));
        }
        Due.same(0, x.check());
        for (int i = 0; i < 7; i++) {
            Due.same(936, x.draw(0));
        }
        Due.same(936, x.draw(0));
        Due.same(939, x.draw(0));
        Due.same(936, x.batch(0, 'd'));
        Due.same(3, x.check());
    }

    private static void wheelEndsAt999() {
        Graphline x = Bench.fired().told();
        for (int i = 0; i < 8 * 21; i++) {
            x.draw(0);
        }
        Due.same(999, x.draw(0));
        Due.same(63, x.check());
        for (int i = 0; i < 8 * 22; i++) {
            x.draw(0);
        }
        Due.same(999, x.draw(0));
        Due.same(66, x.check());
        Due.same(936, x.draw(0));
    }

    private static void drawsNoDarkness() {
        Graphline x = new Graphline();
        x.lot('g', 50, 9, 500);
        x.lot('c', 50, 9, 500);
        x.mix(0, 1, 1, 500, 1);
        x.press(0, 0, 1);
        x.dry(0, 1);
        x.go(18);
        x.fire(0, 0, 1200, 1);
        x.go(1);
        for (int i = 0; i < 8; i++) {
            Due.same(0, x.draw(0));
        }
        Due.same(3, x.draw(0));
    }
}
