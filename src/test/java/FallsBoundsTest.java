/** The boundary cases of promises 29 to 31, each sentence by itself. */
public final class FallsBoundsTest {
    /** A strength of 195: the force is none up to a height of 4, 5 at 5, 165 at 9. */
    private static final Story LAID = Bench.laid(100);

    public static void main(String[] args) {
        fallAsksForARunAndAHeight();
        theForceIs0AtLeast();
        whatBreaksIsCut();
        offTheCentreBreaksMore();
        waxBreaksLess();
        noMoreBreakThanAreWhole();
        fallAsksInTheListedOrder();
        sampleAsksForARunAndHowMany();
        thereAreNotAsMany();
        aSampleOfWholeOnesFindsNone();
        aSampleOfBrokenOnesFindsAll();
        aPencilIsBrokenIfZIsLessThanTheBrokenOnes();
        sampleAsksInTheListedOrder();
        zIs1AtFirst();
        zIs1To2147483646();
        Due.end();
    }

    private static void fallAsksForARunAndAHeight() {
        Bounds.numbers(Bench.grooved(), 0, (x, n) -> x.fall(n, 1));
        Bounds.numbers(LAID, 1, (x, n) -> x.fall(n, 1));
        Bounds.numbers(Bench.grooved().times(16, x -> x.lay(0, 0, '6', 1, 0)), 16, (x, n) -> x.fall(n, 9));
        Bounds.range(LAID, 1, 9, (x, n) -> x.fall(0, n));
    }

    private static void theForceIs0AtLeast() {
        for (int height = 1; height <= 4; height++) {
            int it = height;
            Bounds.answers(0, Bench.laid(500), x -> x.fall(0, it));
            Bounds.answers(0, Bench.laid(500).then(x -> x.fall(0, it)), x -> x.run(0, 'b'));
            Bounds.answers(206, Bench.laid(500).then(x -> x.fall(0, 9)).times(3, x -> x.fall(0, it)), x -> x.run(0, 'b'));
        }
    }

    /** 5 for each pencil at a height of 5, 165 at 9. */
    private static void whatBreaksIsCut() {
        Bounds.answers(0, Bench.laid(79), x -> x.fall(0, 5));
        Bounds.answers(1, Bench.laid(80), x -> x.fall(0, 5));
        Bounds.answers(1, Bench.laid(159), x -> x.fall(0, 5));
        Bounds.answers(2, Bench.laid(160), x -> x.fall(0, 5));
        Bounds.answers(0, Bench.laid(2), x -> x.fall(0, 9));
        Bounds.answers(1, Bench.laid(3), x -> x.fall(0, 9));
        Bounds.answers(205, Bench.laid(499), x -> x.fall(0, 9));
        Bounds.answers(206, Bench.laid(500), x -> x.fall(0, 9));
    }

    private static void offTheCentreBreaksMore() {
        Story off = Bench.fired().then(
            x -> x.slats('c', 8, 0, 200), x -> x.groove(0, 9), x -> x.lay(0, 0, '6', 80, 0));
        Bounds.answers(4, off, x -> x.run(0, 'o'));
        Bounds.answers(0, off, x -> x.fall(0, 2));
        Bounds.answers(1, off, x -> x.fall(0, 3));
        Bounds.answers(9, off, x -> x.fall(0, 4));
        Bounds.answers(49, off, x -> x.fall(0, 9));
        Bounds.answers(306, off.then(x -> x.slats('c', 9, 0, 200), x -> x.groove(1, 11), x -> x.lay(0, 1, '6', 500, 0)),
            x -> x.fall(1, 9));
    }

    private static void waxBreaksLess() {
        Bounds.answers(1, Bench.laid(80), x -> x.fall(0, 5));
        Bounds.answers(0, Bench.laid(500).then(x -> x.soak(0, 1)), x -> x.fall(0, 5));
        Bounds.answers(28, LAID.then(x -> x.soak(0, 5)), x -> x.fall(0, 9));
    }

    private static void noMoreBreakThanAreWhole() {
        Story most = LAID.times(2, x -> x.fall(0, 9));
        Bounds.answers(82, most, x -> x.run(0, 'b'));
        Bounds.answers(18, most, x -> x.fall(0, 9));
        Bounds.answers(100, most.then(x -> x.fall(0, 9)), x -> x.run(0, 'b'));
        Bounds.answers(0, most.then(x -> x.fall(0, 9)), x -> x.fall(0, 9));
        Story none = LAID.times(2, x -> x.sample(0, 50));
        Bounds.answers(0, none, x -> x.fall(0, 9));
        Bounds.answers(0, none.then(x -> x.fall(0, 9)), x -> x.run(0, 'b'));
    }

    private static void fallAsksInTheListedOrder() {
        Bounds.index(LAID, x -> x.fall(1, 0));
        Bounds.index(LAID, x -> x.fall(-1, 10));
    }

    private static void sampleAsksForARunAndHowMany() {
        Bounds.numbers(Bench.grooved(), 0, (x, n) -> x.sample(n, 1));
        Bounds.numbers(LAID, 1, (x, n) -> x.sample(n, 1));
        Bounds.numbers(Bench.grooved().times(16, x -> x.lay(0, 0, '6', 1, 0)), 16, (x, n) -> x.sample(n, 1));
        Bounds.range(LAID, 1, 50, (x, n) -> x.sample(0, n));
        Bounds.answers(99, LAID.then(x -> x.sample(0, 1)), x -> x.run(0, 'n'));
        Bounds.answers(50, LAID.then(x -> x.sample(0, 50)), x -> x.run(0, 'n'));
    }

    private static void thereAreNotAsMany() {
        for (int many : new int[] {1, 10, 49}) {
            Bounds.answers(0, Bench.laid(many), x -> x.sample(0, many));
            Bounds.unsupported(Bench.laid(many), x -> x.sample(0, many + 1));
            Story none = Bench.laid(many).then(x -> x.sample(0, many));
            Bounds.answers(0, none, x -> x.run(0, 'n'));
            Bounds.unsupported(none, x -> x.sample(0, 1));
            Bounds.answers(0, none, x -> x.missing());
        }
        Bounds.unsupported(Bench.laid(30).times(9, x -> x.fall(0, 9)), x -> x.sample(0, 31));
    }

    private static void aSampleOfWholeOnesFindsNone() {
        for (int seed : new int[] {1, 2, 2147483646}) {
            Story seeded = Bench.laid(50).then(x -> x.seed(seed));
            Bounds.answers(0, seeded, x -> x.sample(0, 50));
            Bounds.answers(0, seeded.then(x -> x.sample(0, 50)), x -> x.run(0, 'b'));
        }
    }

    private static void aSampleOfBrokenOnesFindsAll() {
        for (int seed : new int[] {1, 2, 2147483646}) {
            Story broken = Bench.laid(50).times(9, x -> x.fall(0, 9)).then(x -> x.seed(seed));
            Bounds.answers(50, broken, x -> x.run(0, 'b'));
            Bounds.answers(1, broken, x -> x.sample(0, 1));
            Bounds.answers(49, broken.then(x -> x.sample(0, 1)), x -> x.run(0, 'b'));
            Bounds.answers(50, broken, x -> x.sample(0, 50));
            Bounds.answers(0, broken.then(x -> x.sample(0, 50)), x -> x.run(0, 'b'));
        }
    }

    /** Of 100 with 41 broken: z times 48271 modulo 2147483647 is so asked for that modulo 100 it is 40, 41, 0 and 99. */
    private static void aPencilIsBrokenIfZIsLessThanTheBrokenOnes() {
        Story broken = LAID.then(x -> x.fall(0, 9));
        Bounds.answers(41, broken, x -> x.run(0, 'b'));
        int[] rests = {0, 40, 41, 99};
        int[] found = {1, 1, 0, 0};
        for (int i = 0; i < rests.length; i++) {
            int before = beforeRest(rests[i]);
            Story seeded = broken.then(x -> x.seed(before));
            Bounds.answers(found[i], seeded, x -> x.sample(0, 1));
            Bounds.answers(41 - found[i], seeded.then(x -> x.sample(0, 1)), x -> x.run(0, 'b'));
        }
    }

    private static int beforeRest(int rest) {
        int z = 1;
        while (z * 48271L % 2147483647L % 100 != rest) {
            z++;
        }
        return z;
    }

    private static void sampleAsksInTheListedOrder() {
        Story none = Bench.laid(10).then(x -> x.sample(0, 10));
        Bounds.index(LAID, x -> x.sample(1, 0));
        Bounds.index(LAID, x -> x.sample(-1, 51));
        Bounds.argument(Bench.laid(10), x -> x.sample(0, 51));
        Bounds.argument(none, x -> x.sample(0, 0));
        Bounds.argument(none, x -> x.sample(0, 51));
    }

    private static void zIs1AtFirst() {
        Bounds.answers(1, new Story(), x -> x.seed(1));
        Bounds.answers(48271, LAID.then(x -> x.sample(0, 1)), x -> x.seed(1));
        Bounds.answers((int) (48271L * 48271L % 2147483647L), LAID.then(x -> x.sample(0, 2)), x -> x.seed(1));
    }

    private static void zIs1To2147483646() {
        Bounds.range(new Story(), 1, 2147483646, (x, n) -> x.seed(n));
        Bounds.answers(2147483646, new Story().then(x -> x.seed(2147483646)), x -> x.seed(1));
        Bounds.answers(2147483647 - 48271, LAID.then(x -> x.seed(2147483646), x -> x.sample(0, 1)), x -> x.seed(1));
        Bounds.range(new Story().then(x -> x.seed(2147483646)), 1, 2147483646, (x, n) -> x.seed(n));
    }
}
