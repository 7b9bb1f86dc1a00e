/** The boundary cases of promises 7 to 10, each sentence by itself. */
public final class LotsAndMixturesBoundsTest {
    private static final Story NEW = new Story();
    /** 30 kilos of graphite and 20 of clay. */
    private static final Story TWO = NEW.then(x -> x.lot('g', 90, 3, 30), x -> x.lot('c', 80, 3, 20));
    private static final Story NO_MILL = TWO.then(x -> x.on('m', false));
    private static final Story TWELVE = TWO.times(12, x -> x.mix(0, 1, 1, 1, 1));

    public static void main(String[] args) {
        aLotIsGraphiteOrClay();
        aLotsNumbersHaveRanges();
        atMost16Lots();
        kilosAreThoseOfALot();
        aMixtureIsOfTwoLots();
        aMixturesNumbersHaveRanges();
        aLotIsOfAnotherKind();
        aLotHasNotAsMuch();
        theMillDoesNotRun();
        atMost12Mixtures();
        mixAsksInTheListedOrder();
        carbonIsCut();
        finenessIs0To9();
        somethingOfAMixture();
        Due.end();
    }

    private static void aLotIsGraphiteOrClay() {
        Bounds.signs(NEW, "gc", (x, sign) -> x.lot(sign, 90, 3, 100));
        Bounds.argument(NEW, x -> x.lot('b', 90, 3, 100));
        Bounds.argument(NEW, x -> x.lot('G', 90, 3, 100));
    }

    private static void aLotsNumbersHaveRanges() {
        for (char kind : new char[] {'g', 'c'}) {
            Bounds.range(NEW, 50, 99, (x, n) -> x.lot(kind, n, 3, 100));
            Bounds.range(NEW, 1, 9, (x, n) -> x.lot(kind, 90, n, 100));
            Bounds.range(NEW, 1, 500, (x, n) -> x.lot(kind, 90, 3, n));
            Bounds.answers(1, NEW.then(x -> x.lot(kind, 50, 1, 1)), x -> x.kilos(0));
            Bounds.answers(500, NEW.then(x -> x.lot(kind, 99, 9, 500)), x -> x.kilos(0));
        }
    }

    private static void atMost16Lots() {
        Story fifteen = TWO.times(13, x -> x.lot('g', 60, 5, 10));
        Bounds.answers(15, fifteen, x -> x.lot('c', 60, 5, 11));
        Story full = fifteen.then(x -> x.lot('c', 60, 5, 11));
        Bounds.answers(11, full, x -> x.kilos(15));
        Bounds.state(full, x -> x.lot('g', 60, 5, 10));
        Bounds.state(full, x -> x.lot('c', 60, 5, 10));
        Bounds.state(full.then(x -> x.mix(0, 15, 30, 11, 1)), x -> x.lot('c', 60, 5, 10));
        Bounds.argument(full, x -> x.lot('q', 60, 5, 10));
        Bounds.argument(full, x -> x.lot('g', 49, 5, 10));
        Bounds.argument(full, x -> x.lot('g', 100, 5, 10));
        Bounds.argument(full, x -> x.lot('c', 60, 0, 10));
        Bounds.argument(full, x -> x.lot('c', 60, 10, 10));
        Bounds.argument(full, x -> x.lot('g', 60, 5, 0));
        Bounds.argument(full, x -> x.lot('g', 60, 5, 501));
    }

    private static void kilosAreThoseOfALot() {
        Bounds.numbers(NEW, 0, (x, n) -> x.kilos(n));
        Bounds.numbers(TWO, 2, (x, n) -> x.kilos(n));
        Bounds.numbers(TWO.times(14, x -> x.lot('g', 60, 5, 10)), 16, (x, n) -> x.kilos(n));
        Story used = TWO.then(x -> x.mix(0, 1, 30, 19, 1));
        Bounds.answers(0, used, x -> x.kilos(0));
        Bounds.answers(1, used, x -> x.kilos(1));
    }

    private static void aMixtureIsOfTwoLots() {
        for (int wrong : new int[] {-1, 2, Integer.MIN_VALUE, Integer.MAX_VALUE}) {
            Bounds.index(TWO, x -> x.mix(wrong, 1, 1, 1, 1));
            Bounds.index(TWO, x -> x.mix(0, wrong, 1, 1, 1));
            Bounds.index(TWO, x -> x.mix(wrong, wrong, 1, 1, 1));
        }
        Story sixteen = TWO.times(13, x -> x.lot('g', 60, 5, 10)).then(x -> x.lot('c', 60, 5, 10));
        Bounds.answers(0, sixteen, x -> x.mix(14, 15, 1, 1, 1));
        Bounds.index(sixteen, x -> x.mix(16, 15, 1, 1, 1));
        Bounds.index(sixteen, x -> x.mix(14, 16, 1, 1, 1));
    }

    private static void aMixturesNumbersHaveRanges() {
        Bounds.range(TWO, 1, 9, (x, n) -> x.mix(0, 1, 1, 1, n));
        for (int wrong : new int[] {0, -1, Integer.MIN_VALUE}) {
            Bounds.argument(TWO, x -> x.mix(0, 1, wrong, 1, 1));
            Bounds.argument(TWO, x -> x.mix(0, 1, 1, wrong, 1));
            Bounds.argument(TWO, x -> x.mix(0, 1, wrong, wrong, 1));
        }
        Bounds.answers(0, TWO, x -> x.mix(0, 1, 1, 1, 1));
        Bounds.answers(0, TWO, x -> x.mix(0, 1, 30, 20, 9));
        Bounds.answers(50, TWO.then(x -> x.mix(0, 1, 30, 20, 9)), x -> x.mixture(0, 'k'));
    }

    private static void aLotIsOfAnotherKind() {
        Bounds.unsupported(TWO, x -> x.mix(1, 1, 1, 1, 1));
        Bounds.unsupported(TWO, x -> x.mix(0, 0, 1, 1, 1));
        Bounds.unsupported(TWO, x -> x.mix(1, 0, 1, 1, 1));
    }

    private static void aLotHasNotAsMuch() {
        Bounds.answers(0, TWO, x -> x.mix(0, 1, 30, 1, 1));
        Bounds.unsupported(TWO, x -> x.mix(0, 1, 31, 1, 1));
        Bounds.answers(0, TWO, x -> x.mix(0, 1, 1, 20, 1));
        Bounds.unsupported(TWO, x -> x.mix(0, 1, 1, 21, 1));
        Bounds.unsupported(TWO, x -> x.mix(0, 1, 31, 21, 1));
        Bounds.unsupported(TWO, x -> x.mix(0, 1, Integer.MAX_VALUE, 1, 1));
        Bounds.unsupported(TWO, x -> x.mix(0, 1, 1, Integer.MAX_VALUE, 1));
        Bounds.unsupported(TWO, x -> x.mix(0, 1, Integer.MAX_VALUE, Integer.MAX_VALUE, 1));
        Story noGraphite = TWO.then(x -> x.mix(0, 1, 30, 19, 1));
        Bounds.unsupported(noGraphite, x -> x.mix(0, 1, 1, 1, 1));
        Story noClay = TWO.then(x -> x.mix(0, 1, 29, 20, 1));
        Bounds.unsupported(noClay, x -> x.mix(0, 1, 1, 1, 1));
        Bounds.answers(1, TWO.then(x -> x.mix(0, 1, 29, 19, 1)), x -> x.mix(0, 1, 1, 1, 1));
    }

    private static void theMillDoesNotRun() {
        Bounds.unsupported(NO_MILL, x -> x.mix(0, 1, 1, 1, 1));
        Bounds.unsupported(TWO.then(x -> x.shaft(false)), x -> x.mix(0, 1, 1, 1, 1));
        Story driven = TWO.then(x -> x.belt('m', 'g'), x -> x.belt('g', 'c'), x -> x.belt('c', 'p'));
        Bounds.answers(0, driven, x -> x.mix(0, 1, 1, 1, 1));
        Bounds.unsupported(driven.then(x -> x.on('p', false)), x -> x.mix(0, 1, 1, 1, 1));
        Story others = TWO.then(x -> x.on('p', false), x -> x.on('g', false), x -> x.on('c', false));
        Bounds.answers(0, others, x -> x.mix(0, 1, 1, 1, 1));
    }

    private static void atMost12Mixtures() {
        Story eleven = TWO.times(11, x -> x.mix(0, 1, 1, 1, 1));
        Bounds.answers(11, eleven, x -> x.mix(0, 1, 1, 1, 1));
        Bounds.state(TWELVE, x -> x.mix(0, 1, 1, 1, 1));
        Bounds.state(TWELVE, x -> x.mix(0, 1, 18, 8, 9));
        Bounds.answers(18, TWELVE, x -> x.kilos(0));
        Bounds.answers(8, TWELVE, x -> x.kilos(1));
    }

    private static void mixAsksInTheListedOrder() {
        Bounds.index(TWO, x -> x.mix(2, 1, 0, 1, 1));
        Bounds.index(TWO, x -> x.mix(0, 2, 1, 0, 1));
        Bounds.index(TWO, x -> x.mix(0, -1, 1, 1, 10));
        Bounds.index(TWO, x -> x.mix(1, 2, 1, 1, 1));
        Bounds.index(TWO, x -> x.mix(2, 0, 1, 1, 1));
        Bounds.index(TWO, x -> x.mix(0, 2, 31, 1, 1));
        Bounds.index(NO_MILL, x -> x.mix(2, 1, 1, 1, 1));
        Bounds.index(NO_MILL, x -> x.mix(0, 2, 1, 1, 1));
        Bounds.index(TWELVE, x -> x.mix(2, 1, 1, 1, 1));
        Bounds.index(TWELVE, x -> x.mix(0, 2, 1, 1, 1));
        Bounds.argument(TWO, x -> x.mix(1, 1, 0, 1, 1));
        Bounds.argument(TWO, x -> x.mix(0, 0, 1, 0, 1));
        Bounds.argument(TWO, x -> x.mix(1, 0, 1, 1, 10));
        Bounds.argument(TWO, x -> x.mix(0, 1, 31, 0, 1));
        Bounds.argument(TWO, x -> x.mix(0, 1, 0, 21, 1));
        Bounds.argument(TWO, x -> x.mix(0, 1, 31, 1, 0));
        Bounds.argument(NO_MILL, x -> x.mix(0, 1, 0, 1, 1));
        Bounds.argument(NO_MILL, x -> x.mix(0, 1, 1, 0, 1));
        Bounds.argument(NO_MILL, x -> x.mix(0, 1, 1, 1, 10));
        Bounds.argument(TWELVE, x -> x.mix(0, 1, 0, 1, 1));
        Bounds.argument(TWELVE, x -> x.mix(0, 1, 1, 0, 1));
        Bounds.argument(TWELVE, x -> x.mix(0, 1, 1, 1, 0));
        Bounds.unsupported(TWELVE, x -> x.mix(1, 1, 1, 1, 1));
        Bounds.unsupported(TWELVE, x -> x.mix(0, 0, 1, 1, 1));
        Bounds.unsupported(TWELVE, x -> x.mix(0, 1, 19, 1, 1));
        Bounds.unsupported(TWELVE, x -> x.mix(0, 1, 1, 9, 1));
        Bounds.unsupported(TWELVE.then(x -> x.on('m', false)), x -> x.mix(0, 1, 1, 1, 1));
        Bounds.unsupported(TWELVE.then(x -> x.shaft(false)), x -> x.mix(0, 1, 1, 1, 1));
    }

    private static void carbonIsCut() {
        mixes(50, 1, 1, 1, 500, 1, 0, 9);
        mixes(50, 1, 1, 1, 499, 1, 1, 9);
        mixes(50, 1, 1, 1, 249, 1, 2, 9);
        mixes(99, 9, 9, 500, 1, 9, 988, 6);
        mixes(70, 9, 1, 1, 2, 1, 233, 1);
        mixes(70, 9, 1, 2, 1, 1, 466, 1);
        mixes(99, 1, 1, 500, 500, 1, 495, 9);
    }

    /** The days, and 9 less the size of the graphite, less a third of the size of the clay, cut. */
    private static void finenessIs0To9() {
        int[] thirds = {0, 0, 0, 1, 1, 1, 2, 2, 2, 3};
        for (int claySize = 1; claySize <= 9; claySize++) {
            mixes(60, 5, claySize, 1, 1, 4, 300, 8 - thirds[claySize]);
        }
        mixes(60, 9, 3, 1, 1, 1, 300, 0);
        mixes(60, 9, 6, 1, 1, 1, 300, 0);
        mixes(60, 9, 9, 1, 1, 1, 300, 0);
        mixes(60, 9, 2, 1, 1, 1, 300, 1);
        mixes(60, 1, 1, 1, 1, 1, 300, 9);
        mixes(60, 1, 1, 1, 1, 2, 300, 9);
        mixes(60, 1, 1, 1, 1, 9, 300, 9);
        mixes(60, 1, 3, 1, 1, 1, 300, 8);
    }

    private static void mixes(int purity, int size, int claySize, int kilos, int more, int days, int carbon, int fineness) {
        Story story = NEW.then(
            x -> x.lot('c', 55, claySize, 500),
            x -> x.lot('g', purity, size, 500),
            x -> x.mix(1, 0, kilos, more, days));
        Bounds.answers(carbon, story, x -> x.mixture(0, 'c'));
        Bounds.answers(fineness, story, x -> x.mixture(0, 'f'));
        Bounds.answers(kilos + more, story, x -> x.mixture(0, 'k'));
        Bounds.answers(500 - more, story, x -> x.kilos(0));
        Bounds.answers(500 - kilos, story, x -> x.kilos(1));
    }

    private static void somethingOfAMixture() {
        Story one = Bench.mixed();
        Bounds.numbers(TWO, 0, (x, n) -> x.mixture(n, 'c'));
        Bounds.numbers(one, 1, (x, n) -> x.mixture(n, 'c'));
        Bounds.numbers(TWELVE, 12, (x, n) -> x.mixture(n, 'k'));
        Bounds.signs(one, "cfk", (x, sign) -> x.mixture(0, sign));
        Bounds.index(one, x -> x.mixture(1, 'x'));
        Bounds.index(one, x -> x.mixture(-1, 'x'));
        Bounds.answers(0, one.then(x -> x.press(0, 0, 100)), x -> x.mixture(0, 'k'));
        Bounds.answers(1, one.then(x -> x.press(0, 0, 99)), x -> x.mixture(0, 'k'));
    }
}
