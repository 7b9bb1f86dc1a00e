/** The boundary cases of promises 40 to 44, each sentence by itself. */
public final class SumsBoundsTest {
    private static final Story NEW = new Story();

    public static void main(String[] args) {
        noPencilIsMissing();
        theChecksumIs7AtFirst();
        theChecksumIsOfBatchesRunsAndGrossesAlone();
        theChecksumWrapsAround();
        aShareOfNoPencilsIsNone();
        aShareIs0To1();
        aMeanOfNoFiredBatchIsNone();
        aMeanIsOfFiredBatchesAlone();
        aNewWorksIsSound();
        aWorksWithFullChainsAndNoPencilsLeftIsSound();
        Due.end();
    }

    private static void noPencilIsMissing() {
        Bounds.answers(0, NEW, x -> x.missing());
        Story most = Bench.stamped(500).then(x -> x.lay(0, 0, '6', 500, 0));
        Bounds.answers(0, most, x -> x.missing());
        Bounds.answers(0, most.then(x -> x.sample(0, 1), x -> x.sample(1, 50)), x -> x.missing());
        Story packed = most.then(x -> x.gross(18), x -> x.pack(0, 0, 144));
        Bounds.answers(0, packed, x -> x.missing());
        Story two = packed.then(x -> x.gross(18), x -> x.pack(1, 0, 144));
        Bounds.answers(0, two, x -> x.missing());
        Bounds.answers(0, packed.then(x -> x.order(18, 1, 49), x -> x.ship(0, 0)), x -> x.missing());
        Bounds.answers(0, packed.times(9, x -> x.fall(0, 9)).then(x -> x.sample(0, 50)), x -> x.missing());
        Story none = Bench.laid(50).then(x -> x.sample(0, 50));
        Bounds.answers(0, none, x -> x.missing());
    }

    private static void theChecksumIs7AtFirst() {
        Bounds.answers(7L, NEW, x -> x.checksum());
    }

    private static void theChecksumIsOfBatchesRunsAndGrossesAlone() {
        Story others = Bench.mixed().then(x -> x.slats('c', 0, 0, 100), x -> x.order(0, 1, 0), x -> x.go(500));
        Bounds.answers(7L, others, x -> x.checksum());
        Bounds.answers(7L * 31 * 31 * 31 + 20L * 31 * 31, others.then(x -> x.press(0, 0, 1)), x -> x.checksum());
        Bounds.answers(7L * 31, others.then(x -> x.gross(19)), x -> x.checksum());
        Bounds.answers(7L * 31 * 31, others.then(x -> x.gross(19), x -> x.gross(0)), x -> x.checksum());
        long fired = ((7L * 31 + 1000) * 31 + 936) * 31 + 195;
        Bounds.answers(fired, Bench.fired(), x -> x.checksum());
        long laid = (((7L * 31 + 900) * 31 + 936) * 31 + 195) * 31 + 100;
        Bounds.answers(laid * 31, Bench.laid(100), x -> x.checksum());
        Bounds.answers(laid * 31 + 41, Bench.laid(100).then(x -> x.fall(0, 9)), x -> x.checksum());
        long stamped = (((7L * 31 + 900) * 31 + 936) * 31 + 195) * 31 + 60;
        Story packed = Bench.stamped(100).then(
            x -> x.gross(18), x -> x.gross(18), x -> x.pack(1, 0, 10), x -> x.pack(0, 0, 30));
        Bounds.answers(((stamped * 31) * 31 + 30) * 31 + 10, packed, x -> x.checksum());
    }

    /** 16 batches are 48 times 31, far more than a long holds. */
    private static void theChecksumWrapsAround() {
        long due = 7;
        for (int i = 0; i < 16; i++) {
            due = ((31 * due + 20) * 31) * 31;
        }
        Story batches = Bench.mixed().times(16, x -> x.press(0, 0, 1));
        Bounds.answers(due, batches, x -> x.checksum());
        for (int i = 0; i < 30; i++) {
            due = 31 * due;
        }
        Bounds.answers(due, batches.times(30, x -> x.gross(0)), x -> x.checksum());
    }

    private static void aShareOfNoPencilsIsNone() {
        Bounds.arithmetic(NEW, x -> x.brokenShare());
        Bounds.arithmetic(Bench.grooved(), x -> x.brokenShare());
        Bounds.arithmetic(Bench.laid(50).then(x -> x.sample(0, 50)), x -> x.brokenShare());
        Bounds.arithmetic(Bench.stamped(1).then(x -> x.gross(18), x -> x.pack(0, 0, 1)), x -> x.brokenShare());
    }

    private static void aShareIs0To1() {
        Bounds.answers(0.0f, Bench.laid(1), x -> x.brokenShare());
        Bounds.answers(0.0f, Bench.laid(500), x -> x.brokenShare());
        Story third = Bench.laid(3).then(x -> x.fall(0, 9));
        Bounds.answers(1.0f / 3.0f, third, x -> x.brokenShare());
        Bounds.answers(1.0f, third.times(2, x -> x.fall(0, 9)), x -> x.brokenShare());
        Story two = third.then(x -> x.lay(0, 0, '6', 4, 0));
        Bounds.answers(1.0f / 7.0f, two, x -> x.brokenShare());
        Bounds.answers(0.0f, two.then(x -> x.sample(0, 3)), x -> x.brokenShare());
        Story packed = Bench.stamped(10).then(x -> x.fall(0, 9), x -> x.gross(18), x -> x.pack(0, 0, 6));
        Bounds.answers(1.0f, packed, x -> x.brokenShare());
    }

    private static void aMeanOfNoFiredBatchIsNone() {
        Story dry = Bench.mixed().then(x -> x.press(0, 0, 10), x -> x.dry(0, 1), x -> x.go(18));
        Bounds.arithmetic(NEW, x -> x.meanDarkness());
        Bounds.arithmetic(Bench.mixed(), x -> x.meanDarkness());
        Bounds.arithmetic(dry, x -> x.meanDarkness());
        Bounds.answers(936.0, dry.then(x -> x.fire(0, 0, 700, 12)), x -> x.meanDarkness());
    }

    private static void aMeanIsOfFiredBatchesAlone() {
        Story three = Bench.fired().times(2, x -> x.press(0, 0, 1))
            .then(x -> x.dry(1, 5), x -> x.dry(2, 5), x -> x.go(4));
        Bounds.answers(936.0, three, x -> x.meanDarkness());
        Story two = three.then(x -> x.fire(1, 0, 710, 1));
        Bounds.answers(935.5, two, x -> x.meanDarkness());
        Bounds.answers((936 + 935 + 935) / 3.0, two.then(x -> x.fire(2, 1, 710, 1)), x -> x.meanDarkness());
        Bounds.answers(939.5, two.then(x -> x.soak(0, 1)), x -> x.meanDarkness());
        Story none = NEW.then(
            x -> x.lot('g', 50, 9, 500), x -> x.lot('c', 50, 9, 500), x -> x.mix(0, 1, 1, 500, 1),
            x -> x.press(0, 0, 1), x -> x.dry(0, 5), x -> x.go(4), x -> x.fire(0, 0, 1200, 1));
        Bounds.answers(0.0, none, x -> x.meanDarkness());
    }

    private static void aNewWorksIsSound() {
        Bounds.answers(true, NEW, x -> x.isSound());
        Bounds.answers(true, NEW.then(x -> x.shaft(false)), x -> x.isSound());
    }

    private static void aWorksWithFullChainsAndNoPencilsLeftIsSound() {
        Story chain = NEW.then(x -> x.belt('m', 'p'), x -> x.belt('p', 'g'), x -> x.belt('g', 'c'), x -> x.on('c', false));
        Bounds.answers(true, chain, x -> x.isSound());
        Bounds.answers(true, NEW.times(30, x -> x.gross(7)), x -> x.isSound());
        Story broken = Bench.stamped(100).times(9, x -> x.fall(0, 9));
        Bounds.answers(true, broken, x -> x.isSound());
        Bounds.answers(true, broken.then(x -> x.gross(18), x -> x.pack(0, 0, 100)), x -> x.isSound());
        Bounds.answers(true, broken.times(2, x -> x.sample(0, 50)), x -> x.isSound());
    }
}
