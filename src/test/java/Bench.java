/** Works that stand at a known point, for the tests to go on from. */
final class Bench {
    private Bench() {
    }

    /** Lots 0 'g' and 1 'c', mixture 0 of carbon 891, fineness 9 and 100 kilos; the hour is 0. */
    static Graphline mixed() {
        Graphline x = new Graphline();
        x.lot('g', 99, 1, 500);
        x.lot('c', 50, 1, 500);
        x.mix(0, 1, 90, 10, 9);
        return x;
    }

    /** And batch 0 of 1000 leads with a bore of 20, strength 195, darkness 936; the hour is 19. */
    static Graphline fired() {
        Graphline x = mixed();
        x.press(0, 0, 50);
        x.dry(0, 1);
        x.go(18);
        x.fire(0, 0, 700, 1);
        x.go(1);
        return x;
    }

    /** And slats 0 of 500, of cedar without grain, with a groove of 10. */
    static Graphline grooved() {
        Graphline x = fired();
        x.slats('c', 0, 0, 500);
        x.groove(0, 10);
        return x;
    }

    /** And run 0 of so many six-sided pencils by hand 7, with no glue dry; the hour is 19. */
    static Graphline laid(int many) {
        Graphline x = grooved();
        x.lay(0, 0, '6', many, 7);
        return x;
    }

    /** And three coats of colour 2 on it, dry; the hour is 49. */
    static Graphline coated(int many) {
        Graphline x = laid(many);
        x.go(6);
        coats(x, 0);
        return x;
    }

    /** And a stamp of 18. */
    static Graphline stamped(int many) {
        Graphline x = coated(many);
        x.stamp(0);
        return x;
    }

    static void coats(Graphline x, int run) {
        for (int i = 0; i < 3; i++) {
            x.coat(run, 2);
            x.go(8);
        }
    }
}
