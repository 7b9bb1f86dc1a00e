/** Promises 1 to 6. */
public final class ClockAndShaftTest {
    public static void main(String[] args) {
        newObject();
        go();
        shaft();
        belt();
        ring();
        on();
        Due.end();
    }

    private static void newObject() {
        Graphline x = new Graphline();
        Due.outOfBounds(() -> x.kilos(0));
        Due.outOfBounds(() -> x.mixture(0, 'c'));
        Due.outOfBounds(() -> x.batch(0, 'n'));
        Due.outOfBounds(() -> x.slat(0, 'n'));
        Due.outOfBounds(() -> x.run(0, 'n'));
        Due.outOfBounds(() -> x.parts(0));
        Due.outOfBounds(() -> x.isLate(0));
        for (char machine : "mpgc".toCharArray()) {
            Due.same(true, x.runs(machine));
            Due.same('-', x.belt(machine, '-'));
        }
        for (int die = 0; die < 4; die++) {
            Due.same(0, x.worn(die));
        }
        Due.same(0, x.check());
        Due.same(1, x.seed(5));
        Due.same(7L, x.checksum());
        Due.same(1, x.go(1));
    }

    private static void go() {
        Graphline x = new Graphline();
        Due.badArgument(() -> x.go(0));
        Due.badArgument(() -> x.go(-1));
        Due.badArgument(() -> x.go(501));
        Due.badArgument(() -> x.go(Integer.MAX_VALUE));
        Due.badArgument(() -> x.go(Integer.MIN_VALUE));
        for (int i = 1; i < 20; i++) {
            Due.same(500 * i, x.go(500));
        }
        Due.badState(() -> x.go(500));
        Due.same(9998, x.go(498));
        Due.badState(() -> x.go(2));
        Due.same(9999, x.go(1));
        Due.badState(() -> x.go(1));
        Due.badArgument(() -> x.go(501));
    }

    private static void shaft() {
        Graphline x = new Graphline();
        x.belt('c', 'g');
        Due.same(true, x.shaft(true));
        Due.same(true, x.shaft(false));
        Due.same(false, x.shaft(false));
        for (char machine : "mpgc".toCharArray()) {
            Due.same(false, x.runs(machine));
        }
        Due.same(false, x.shaft(true));
        for (char machine : "mpgc".toCharArray()) {
            Due.same(true, x.runs(machine));
        }
    }

    private static void belt() {
        Graphline x = new Graphline();
        Due.badArgument(() -> x.belt('x', 'm'));
        Due.badArgument(() -> x.belt('m', 'x'));
        Due.badArgument(() -> x.belt('-', 'm'));
        Due.badArgument(() -> x.belt('-', '-'));
        Due.badArgument(() -> x.belt('m', 'm'));
        Due.badArgument(() -> x.belt('M', '-'));
        Due.badArgument(() -> x.belt((char) 0, '-'));
        Due.badArgument(() -> x.belt('m', (char) 65535));
        Due.same('-', x.belt('m', 'p'));
        Due.same('p', x.belt('m', 'p'));
        Due.same('p', x.belt('m', 'g'));
        Due.same('g', x.belt('m', 'c'));
        Due.same('c', x.belt('m', '-'));
        Due.same('-', x.belt('m', '-'));
    }

    private static void ring() {
        Graphline x = new Graphline();
        x.belt('m', 'p');
        Due.unsupported(() -> x.belt('p', 'm'));
        x.belt('p', 'g');
        Due.unsupported(() -> x.belt('g', 'm'));
        Due.unsupported(() -> x.belt('g', 'p'));
        x.belt('g', 'c');
        Due.unsupported(() -> x.belt('c', 'm'));
        Due.unsupported(() -> x.belt('c', 'p'));
        Due.unsupported(() -> x.belt('c', 'g'));
        Due.badArgument(() -> x.belt('c', 'c'));
        Due.same(true, x.runs('m'));
        Due.same('p', x.belt('m', 'c'));
        Due.same('-', x.belt('c', '-'));
        Due.unsupported(() -> x.belt('c', 'm'));
        Due.same('c', x.belt('m', '-'));
        Due.same('-', x.belt('c', 'm'));
        Due.same(true, x.isSound());
    }

    private static void on() {
        Graphline x = new Graphline();
        Due.badArgument(() -> x.on('-', true));
        Due.badArgument(() -> x.on('x', false));
        Due.badArgument(() -> x.runs('-'));
        Due.badArgument(() -> x.runs('s'));
        Due.same(true, x.on('m', true));
        Due.same(true, x.on('m', false));
        Due.same(false, x.on('m', false));
        Due.same(false, x.runs('m'));
        Due.same(true, x.runs('p'));
        Due.same(false, x.on('m', true));
        Due.same(true, x.runs('m'));
        x.belt('m', 'p');
        x.belt('p', 'g');
        x.belt('g', 'c');
        x.on('c', false);
        for (char machine : "mpgc".toCharArray()) {
            Due.same(false, x.runs(machine));
        }
        x.on('c', true);
        x.on('p', false);
        Due.same(false, x.runs('m'));
        Due.same(false, x.runs('p'));
        Due.same(true, x.runs('g'));
        Due.same(true, x.runs('c'));
        x.belt('m', '-');
        Due.same(true, x.runs('m'));
    }
}
