/** Works that stand at a known point, for the tests to go on from, each told as a story. */
final class Bench {
    private Bench() {
    }

    /** Lots 0 'g' and 1 'c', mixture 0 of carbon 891, fineness 9 and 100 kilos; the hour is 0. */
    static Story mixed() {
        return new Story().then(
            x -> x.lot('g', 99, 1, 500),
            x -> x.lot('c', 50, 1, 500),
            x -> x.mix(0, 1, 90, 10, 9));
    }

    /** And batch 0 of 1000 leads with a bore of 20, strength 195, darkness 936; the hour is 19. */
    static Story fired() {
        return mixed().then(
            x -> x.press(0, 0, 50),
            x -> x.dry(0, 1),
            x -> x.go(18),
            x -> x.fire(0, 0, 700, 1),
            x -> x.go(1));
    }

    /** And slats 0 of 500, of cedar without grain, with a groove of 10. */
    static Story grooved() {
        return fired().then(x -> x.slats('c', 0, 0, 500), x -> x.groove(0, 10));
    }

    /** And run 0 of so many six-sided pencils by hand 7, with no glue dry; the hour is 19. */
    static Story laid(int many) {
        return grooved().then(x -> x.lay(0, 0, '6', many, 7));
    }

    /** And three coats of colour 2 on it, dry; the hour is 49. */
    static Story coated(int many) {
        return laid(many).then(x -> x.go(6)).times(3, x -> x.coat(0, 2), x -> x.go(8));
    }

    /** And a stamp of 18. */
    static Story stamped(int many) {
        return coated(many).then(x -> x.stamp(0));
    }

    static void coats(Graphline x, int run) {
        for (int i = 0; i < 3; i++) {
            x.coat(run, 2);
            x.go(8);
        }
    }
}
