/** The boundary cases of promises 24 to 28, each sentence by itself; those of falls and samples stand in FallsBoundsTest. */
public final class PencilsBoundsTest {
    private static final Story GROOVED = Bench.grooved();
    private static final Story SIXTEEN = GROOVED.times(16, x -> x.lay(0, 0, '6', 1, 0));
    /** Run 0 of 100, its glue dry. */
    private static final Story GLUED = Bench.laid(100).then(x -> x.go(6));
    private static final Story COATED = Bench.coated(100);
    private static final Story STAMPED = Bench.stamped(100);

    public static void main(String[] args) {
        layAsksForABatchAndSlats();
        aShapeIsOneOfThree();
        manyAndHandHaveRanges();
        theBatchWasNotFired();
        theBatchIsNotReady();
        theSlatsAreNotReady();
        theSlatsWereNotGrooved();
        anEvenBoreAndTheGrooveAreAtMost2Apart();
        anOddBoreAndTheGrooveAreAtMost2Apart();
        thereAreNotAsManyLeads();
        slatsAreAwayByTwos();
        aFourthOfTheGrainIsCut();
        theGlueIsReady6HoursLater();
        atMost16Runs();
        layAsksInTheListedOrder();
        coatAsksForARunAndAColour();
        aCoatWaitsForTheOneBelow();
        atMost8Coats();
        theCoaterDoesNotRun();
        coatAsksInTheListedOrder();
        stampAsksForARun();
        aRunWithFewerThan3CoatsIsNotStamped();
        aRunThatIsNotReadyIsNotStamped();
        aRunIsStampedOnce();
        aGradeIsAFiftiethCut();
        eraseAsksForARunAndPumice();
        aRunThatWasNotStampedGetsNoErasers();
        aRunGetsErasersOnce();
        eraseAnswersHowManyPencils();
        eraseAsksInTheListedOrder();
        somethingOfARun();
        Due.end();
    }

    private static void layAsksForABatchAndSlats() {
        for (int wrong : new int[] {-1, 1, Integer.MIN_VALUE, Integer.MAX_VALUE}) {
            Bounds.index(GROOVED, x -> x.lay(wrong, 0, '6', 1, 0));
            Bounds.index(GROOVED, x -> x.lay(0, wrong, '6', 1, 0));
            Bounds.index(GROOVED, x -> x.lay(wrong, wrong, '6', 1, 0));
        }
        Bounds.answers(0, GROOVED, x -> x.lay(0, 0, '6', 1, 0));
        Story two = GROOVED.then(x -> x.slats('b', 0, 0, 2), x -> x.groove(1, 10));
        Bounds.answers(0, two, x -> x.lay(0, 1, '6', 1, 0));
        Bounds.index(two, x -> x.lay(1, 1, '6', 1, 0));
        Bounds.index(two, x -> x.lay(0, 2, '6', 1, 0));
    }

    private static void aShapeIsOneOfThree() {
        Bounds.signs(GROOVED, "603", (x, sign) -> x.lay(0, 0, sign, 1, 0));
    }

    private static void manyAndHandHaveRanges() {
        for (char shape : "603".toCharArray()) {
            Bounds.range(GROOVED, 1, 500, (x, n) -> x.lay(0, 0, shape, n, 0));
            Bounds.range(GROOVED, 0, 9, (x, n) -> x.lay(0, 0, shape, 1, n));
        }
        Story most = GROOVED.then(x -> x.lay(0, 0, '0', 500, 9));
        Bounds.answers(500, most, x -> x.run(0, 'n'));
        Bounds.answers(500, most, x -> x.batch(0, 'n'));
        Bounds.answers(300, most, x -> x.slat(0, 'n'));
    }

    private static Story withSlats(Story story) {
        return story.then(x -> x.slats('c', 0, 0, 100), x -> x.groove(0, 10));
    }

    private static void theBatchWasNotFired() {
        Story pressed = withSlats(Bench.mixed().then(x -> x.press(0, 0, 10)));
        Bounds.unsupported(pressed, x -> x.lay(0, 0, '6', 1, 0));
        Bounds.unsupported(pressed.then(x -> x.dry(0, 5)), x -> x.lay(0, 0, '6', 1, 0));
        Bounds.unsupported(pressed.then(x -> x.dry(0, 5), x -> x.go(4)), x -> x.lay(0, 0, '6', 1, 0));
    }

    private static void theBatchIsNotReady() {
        Story fired = withSlats(Bench.mixed().then(
            x -> x.press(0, 0, 10), x -> x.dry(0, 5), x -> x.go(4), x -> x.fire(0, 0, 700, 3)));
        Bounds.unsupported(fired, x -> x.lay(0, 0, '6', 1, 0));
        Bounds.unsupported(fired.then(x -> x.go(2)), x -> x.lay(0, 0, '6', 1, 0));
        Bounds.answers(0, fired.then(x -> x.go(3)), x -> x.lay(0, 0, '6', 1, 0));
    }

    private static void theSlatsAreNotReady() {
        Story seasoned = GROOVED.then(x -> x.season(0, 3));
        Bounds.unsupported(seasoned, x -> x.lay(0, 0, '6', 1, 0));
        Bounds.unsupported(seasoned.then(x -> x.go(2)), x -> x.lay(0, 0, '6', 1, 0));
        Bounds.answers(0, seasoned.then(x -> x.go(3)), x -> x.lay(0, 0, '6', 1, 0));
    }

    private static void theSlatsWereNotGrooved() {
        Story plain = Bench.fired().then(x -> x.slats('c', 0, 0, 100));
        Bounds.unsupported(plain, x -> x.lay(0, 0, '6', 1, 0));
        Bounds.answers(0, plain.then(x -> x.groove(0, 10)), x -> x.lay(0, 0, '6', 1, 0));
    }

    private static void anEvenBoreAndTheGrooveAreAtMost2Apart() {
        fits(Bench.fired(), 0, new int[] {5, 8, 9, 10, 11, 12, 30}, new int[] {-1, -1, 2, 0, 2, -1, -1});
    }

    private static void anOddBoreAndTheGrooveAreAtMost2Apart() {
        Story bored = new Story().then(
            x -> x.lot('g', 90, 9, 500), x -> x.lot('c', 80, 9, 500), x -> x.mix(0, 1, 400, 400, 1),
            x -> x.press(0, 0, 20), x -> x.press(0, 0, 5),
            x -> x.dry(1, 1), x -> x.go(18), x -> x.fire(1, 1, 800, 1), x -> x.go(1));
        Bounds.answers(21, bored, x -> x.batch(1, 'b'));
        fits(bored, 1, new int[] {8, 9, 10, 11, 12}, new int[] {-1, -1, 1, 1, -1});
    }

    /** How far each width is apart from the bore of a batch, -1 where that is too far. */
    private static void fits(Story story, int batch, int[] widths, int[] apart) {
        for (int i = 0; i < widths.length; i++) {
            int width = widths[i];
            Story grooved = story.then(x -> x.slats('c', 0, 0, 100), x -> x.groove(0, width));
            if (apart[i] < 0) {
                Bounds.unsupported(grooved, x -> x.lay(batch, 0, '6', 1, 0));
            } else {
                Bounds.answers(apart[i], grooved.then(x -> x.lay(batch, 0, '6', 1, 0)), x -> x.run(0, 'o'));
            }
        }
    }

    private static void thereAreNotAsManyLeads() {
        Story twenty = withSlats(Bench.mixed().then(
            x -> x.press(0, 0, 1), x -> x.dry(0, 1), x -> x.go(18), x -> x.fire(0, 0, 700, 1), x -> x.go(1)));
        Bounds.answers(0, twenty, x -> x.lay(0, 0, '6', 20, 0));
        Bounds.unsupported(twenty, x -> x.lay(0, 0, '6', 21, 0));
        Story none = twenty.then(x -> x.lay(0, 0, '6', 20, 0));
        Bounds.answers(0, none, x -> x.batch(0, 'n'));
        Bounds.unsupported(none, x -> x.lay(0, 0, '6', 1, 0));
        Story one = twenty.then(x -> x.lay(0, 0, '6', 19, 0));
        Bounds.answers(1, one, x -> x.lay(0, 0, '6', 1, 0));
        Bounds.unsupported(one, x -> x.lay(0, 0, '6', 2, 0));
    }

    private static void slatsAreAwayByTwos() {
        String shapes = "603";
        int[] pencils = {6, 5, 7};
        for (int i = 0; i < pencils.length; i++) {
            char shape = shapes.charAt(i);
            int pair = pencils[i];
            lays(shape, 1, 2);
            lays(shape, pair, 2);
            lays(shape, pair + 1, 4);
            lays(shape, 2 * pair, 4);
            lays(shape, 2 * pair + 1, 6);
        }
        lays('6', 500, 168);
        lays('0', 500, 200);
        lays('3', 500, 144);
    }

    /** So many slats are away: as many are enough, one less is not, and a single one that is left is no two. */
    private static void lays(char shape, int many, int slats) {
        for (int left = 0; left < 2; left++) {
            int rest = left;
            Story enough = Bench.fired().then(x -> x.slats('c', 0, 0, slats + rest), x -> x.groove(0, 10));
            Bounds.answers(0, enough, x -> x.lay(0, 0, shape, many, 0));
            Story laid = enough.then(x -> x.lay(0, 0, shape, many, 0));
            Bounds.answers(rest, laid, x -> x.slat(0, 'n'));
            Bounds.unsupported(laid, x -> x.lay(0, 0, shape, 1, 0));
        }
        Story few = Bench.fired().then(x -> x.slats('c', 0, 0, slats - 1), x -> x.groove(0, 10));
        Bounds.unsupported(few, x -> x.lay(0, 0, shape, many, 0));
    }

    private static void aFourthOfTheGrainIsCut() {
        int[] fourths = {0, 0, 0, 0, 1, 1, 1, 1, 2, 2};
        for (int grain = 0; grain <= 9; grain++) {
            int it = grain;
            for (int width = 9; width <= 11; width++) {
                int groove = width;
                Story laid = Bench.fired().then(
                    x -> x.slats('b', it, 0, 100), x -> x.groove(0, groove), x -> x.lay(0, 0, '6', 1, 0));
                Bounds.answers((width == 10 ? 0 : 2) + fourths[grain], laid, x -> x.run(0, 'o'));
            }
        }
    }

    private static void theGlueIsReady6HoursLater() {
        Bounds.answers(25, Bench.laid(100), x -> x.run(0, 'r'));
        Bounds.unsupported(Bench.laid(100), x -> x.coat(0, 0));
        Bounds.unsupported(Bench.laid(100).then(x -> x.go(5)), x -> x.coat(0, 0));
        Bounds.answers(1, GLUED, x -> x.coat(0, 0));
    }

    private static void atMost16Runs() {
        Story fifteen = GROOVED.times(15, x -> x.lay(0, 0, '6', 1, 0));
        Bounds.answers(15, fifteen, x -> x.lay(0, 0, '3', 500, 0));
        Bounds.state(SIXTEEN, x -> x.lay(0, 0, '6', 1, 0));
        Bounds.state(SIXTEEN, x -> x.lay(0, 0, '3', 500, 9));
        Bounds.answers(984, SIXTEEN, x -> x.batch(0, 'n'));
        Bounds.answers(468, SIXTEEN, x -> x.slat(0, 'n'));
    }

    private static void layAsksInTheListedOrder() {
        Bounds.index(GROOVED, x -> x.lay(1, 0, 'x', 1, 0));
        Bounds.index(GROOVED, x -> x.lay(0, 1, '6', 501, 0));
        Bounds.index(GROOVED, x -> x.lay(0, -1, '6', 1, 10));
        Story unfired = withSlats(Bench.mixed().then(x -> x.press(0, 0, 10)));
        Bounds.index(unfired, x -> x.lay(0, 1, '6', 1, 0));
        Bounds.argument(unfired, x -> x.lay(0, 0, '5', 1, 0));
        Bounds.argument(unfired, x -> x.lay(0, 0, '6', 0, 0));
        Bounds.argument(unfired, x -> x.lay(0, 0, '6', 1, 10));
        Story wrong = GROOVED.then(x -> x.slats('c', 0, 0, 2), x -> x.slats('c', 0, 0, 2), x -> x.groove(2, 12));
        Bounds.index(wrong, x -> x.lay(1, 1, '6', 1, 0));
        Bounds.index(wrong, x -> x.lay(1, 2, '6', 1, 0));
        Bounds.argument(wrong, x -> x.lay(0, 1, '6', 1, -1));
        Bounds.argument(wrong, x -> x.lay(0, 1, '4', 1, 0));
        Bounds.argument(wrong, x -> x.lay(0, 2, '6', 501, 0));
        Bounds.argument(wrong, x -> x.lay(0, 2, '4', 1, 0));
        Story none = GROOVED.times(2, x -> x.lay(0, 0, '3', 500, 0));
        Bounds.index(none, x -> x.lay(-1, 0, '6', 1, 0));
        Bounds.argument(none, x -> x.lay(0, 0, '6', 501, 0));
        Bounds.argument(none, x -> x.lay(0, 0, '6', 1, 10));
        Bounds.argument(none, x -> x.lay(0, 0, '4', 1, 0));
        layAsksInTheListedOrderOf16();
    }

    private static void layAsksInTheListedOrderOf16() {
        Bounds.index(SIXTEEN, x -> x.lay(1, 0, '6', 1, 0));
        Bounds.index(SIXTEEN, x -> x.lay(0, 1, '6', 1, 0));
        Bounds.argument(SIXTEEN, x -> x.lay(0, 0, 'x', 1, 0));
        Bounds.argument(SIXTEEN, x -> x.lay(0, 0, '6', 0, 0));
        Bounds.argument(SIXTEEN, x -> x.lay(0, 0, '6', 1, -1));
        Story more = SIXTEEN.then(
            x -> x.slats('c', 0, 0, 500), x -> x.slats('c', 0, 0, 500), x -> x.groove(2, 12),
            x -> x.slats('c', 0, 0, 1), x -> x.groove(3, 10), x -> x.press(0, 1, 1));
        Bounds.unsupported(more, x -> x.lay(0, 1, '6', 1, 0));
        Bounds.unsupported(more, x -> x.lay(0, 2, '6', 1, 0));
        Bounds.unsupported(more, x -> x.lay(0, 3, '6', 1, 0));
        Bounds.unsupported(more, x -> x.lay(1, 0, '6', 1, 0));
        Bounds.unsupported(more.then(x -> x.season(0, 1)), x -> x.lay(0, 0, '6', 1, 0));
        Story firing = more.then(x -> x.dry(1, 1), x -> x.go(18), x -> x.fire(1, 0, 700, 1));
        Bounds.unsupported(firing, x -> x.lay(1, 0, '6', 1, 0));
        Bounds.unsupported(firing.then(x -> x.go(1)), x -> x.lay(1, 0, '6', 21, 0));
        Bounds.state(firing.then(x -> x.go(1)), x -> x.lay(1, 0, '6', 20, 0));
    }

    private static void coatAsksForARunAndAColour() {
        Bounds.numbers(GROOVED, 0, (x, n) -> x.coat(n, 0));
        Bounds.numbers(GLUED, 1, (x, n) -> x.coat(n, 0));
        Bounds.numbers(SIXTEEN.then(x -> x.go(6)), 16, (x, n) -> x.coat(n, 0));
        Bounds.range(GLUED, 0, 9, (x, n) -> x.coat(0, n));
        Bounds.answers(0, GLUED.then(x -> x.coat(0, 0)), x -> x.run(0, 'l'));
        Bounds.answers(9, GLUED.then(x -> x.coat(0, 9)), x -> x.run(0, 'l'));
    }

    private static void aCoatWaitsForTheOneBelow() {
        Story coats = GLUED;
        for (int many = 1; many < 8; many++) {
            coats = coats.then(x -> x.coat(0, 1));
            Bounds.answers(25 + 8 * many, coats, x -> x.run(0, 'r'));
            Bounds.unsupported(coats, x -> x.coat(0, 2));
            Bounds.unsupported(coats.then(x -> x.go(7)), x -> x.coat(0, 2));
            coats = coats.then(x -> x.go(8));
            Bounds.answers(many + 1, coats, x -> x.coat(0, 2));
        }
    }

    private static void atMost8Coats() {
        Story seven = GLUED.times(7, x -> x.coat(0, 1), x -> x.go(8));
        Bounds.answers(8, seven, x -> x.coat(0, 1));
        Story eight = seven.then(x -> x.coat(0, 1), x -> x.go(8));
        Bounds.unsupported(eight, x -> x.coat(0, 1));
        Bounds.unsupported(eight.then(x -> x.go(500)), x -> x.coat(0, 2));
        Bounds.unsupported(eight.then(x -> x.stamp(0)), x -> x.coat(0, 2));
    }

    private static void theCoaterDoesNotRun() {
        Bounds.unsupported(GLUED.then(x -> x.on('c', false)), x -> x.coat(0, 0));
        Bounds.unsupported(GLUED.then(x -> x.shaft(false)), x -> x.coat(0, 0));
        Story driven = GLUED.then(x -> x.belt('c', 'p'), x -> x.belt('p', 'm'), x -> x.belt('m', 'g'));
        Bounds.answers(1, driven, x -> x.coat(0, 0));
        Bounds.unsupported(driven.then(x -> x.on('g', false)), x -> x.coat(0, 0));
        Story others = GLUED.then(x -> x.on('m', false), x -> x.on('p', false), x -> x.on('g', false));
        Bounds.answers(1, others, x -> x.coat(0, 0));
    }

    private static void coatAsksInTheListedOrder() {
        Story off = GLUED.then(x -> x.on('c', false));
        Story eight = GLUED.times(8, x -> x.coat(0, 1), x -> x.go(8));
        Bounds.index(GLUED, x -> x.coat(1, 10));
        Bounds.index(GLUED, x -> x.coat(-1, -1));
        Bounds.index(off, x -> x.coat(1, 0));
        for (int wrong : new int[] {-1, 10}) {
            Bounds.argument(off, x -> x.coat(0, wrong));
            Bounds.argument(eight, x -> x.coat(0, wrong));
            Bounds.argument(Bench.laid(100), x -> x.coat(0, wrong));
        }
    }

    private static void stampAsksForARun() {
        Bounds.numbers(GROOVED, 0, (x, n) -> x.stamp(n));
        Bounds.numbers(COATED, 1, (x, n) -> x.stamp(n));
        Story two = COATED.then(x -> x.lay(0, 0, '6', 1, 0), x -> x.go(6)).times(3, x -> x.coat(1, 2), x -> x.go(8));
        Bounds.numbers(two, 2, (x, n) -> x.stamp(n));
    }

    private static void aRunWithFewerThan3CoatsIsNotStamped() {
        Bounds.unsupported(GLUED, x -> x.stamp(0));
        Bounds.unsupported(GLUED.then(x -> x.coat(0, 1), x -> x.go(8)), x -> x.stamp(0));
        Bounds.unsupported(GLUED.times(2, x -> x.coat(0, 1), x -> x.go(8)), x -> x.stamp(0));
        Bounds.answers(18, GLUED.times(3, x -> x.coat(0, 1), x -> x.go(8)), x -> x.stamp(0));
        Bounds.answers(18, GLUED.times(8, x -> x.coat(0, 1), x -> x.go(8)), x -> x.stamp(0));
    }

    private static void aRunThatIsNotReadyIsNotStamped() {
        Bounds.unsupported(Bench.laid(100), x -> x.stamp(0));
        Story third = GLUED.times(2, x -> x.coat(0, 1), x -> x.go(8)).then(x -> x.coat(0, 1));
        Bounds.unsupported(third, x -> x.stamp(0));
        Bounds.unsupported(third.then(x -> x.go(7)), x -> x.stamp(0));
        Bounds.answers(18, third.then(x -> x.go(8)), x -> x.stamp(0));
        Story fourth = COATED.then(x -> x.coat(0, 1));
        Bounds.unsupported(fourth.then(x -> x.go(7)), x -> x.stamp(0));
        Bounds.answers(18, fourth.then(x -> x.go(8)), x -> x.stamp(0));
    }

    private static void aRunIsStampedOnce() {
        Bounds.unsupported(STAMPED, x -> x.stamp(0));
        Bounds.unsupported(STAMPED.then(x -> x.coat(0, 1)), x -> x.stamp(0));
        Bounds.unsupported(STAMPED.then(x -> x.coat(0, 1), x -> x.go(8)), x -> x.stamp(0));
        Bounds.unsupported(dark(1, 499, 1200).then(x -> x.stamp(0)), x -> x.stamp(0));
    }

    /** Graphite and clay of 16 to 300 make a darkness of 50 + 45, of 27 to 1 one of 954 + 45, less a tenth of the heat above 700. */
    private static void aGradeIsAFiftiethCut() {
        stamps(1, 499, 1200, 0, 0);
        stamps(16, 300, 1160, 49, 0);
        stamps(16, 300, 1150, 50, 1);
        stamps(16, 300, 700, 95, 1);
        stamps(27, 1, 1200, 949, 18);
        stamps(27, 1, 1190, 950, 19);
        stamps(27, 1, 700, 999, 19);
    }

    private static void stamps(int kilos, int more, int heat, int darkness, int grade) {
        Story coated = dark(kilos, more, heat);
        Bounds.answers(darkness, coated, x -> x.batch(0, 'd'));
        Bounds.answers(-1, coated, x -> x.run(0, 'g'));
        Bounds.answers(grade, coated, x -> x.stamp(0));
        Bounds.answers(grade, coated.then(x -> x.stamp(0)), x -> x.run(0, 'g'));
    }

    private static Story dark(int kilos, int more, int heat) {
        return new Story().then(
            x -> x.lot('g', 99, 1, 500), x -> x.lot('c', 99, 1, 500), x -> x.mix(0, 1, kilos, more, 9),
            x -> x.press(0, 0, 1), x -> x.dry(0, 5), x -> x.go(4), x -> x.fire(0, 0, heat, 1), x -> x.go(1),
            x -> x.slats('c', 0, 0, 100), x -> x.groove(0, 10), x -> x.lay(0, 0, '6', 10, 0), x -> x.go(6))
            .times(3, x -> x.coat(0, 1), x -> x.go(8));
    }

    private static void eraseAsksForARunAndPumice() {
        Bounds.numbers(GROOVED, 0, (x, n) -> x.erase(n, 0));
        Bounds.numbers(STAMPED, 1, (x, n) -> x.erase(n, 0));
        Bounds.range(STAMPED, 0, 9, (x, n) -> x.erase(0, n));
    }

    private static void aRunThatWasNotStampedGetsNoErasers() {
        Bounds.unsupported(Bench.laid(100), x -> x.erase(0, 0));
        Bounds.unsupported(COATED, x -> x.erase(0, 0));
        Bounds.answers(100, STAMPED, x -> x.erase(0, 0));
        Bounds.answers(10, dark(1, 499, 1200).then(x -> x.stamp(0)), x -> x.erase(0, 9));
    }

    private static void aRunGetsErasersOnce() {
        Bounds.unsupported(STAMPED.then(x -> x.erase(0, 0)), x -> x.erase(0, 0));
        Bounds.unsupported(STAMPED.then(x -> x.erase(0, 9)), x -> x.erase(0, 9));
        Bounds.unsupported(STAMPED.times(2, x -> x.sample(0, 50)).then(x -> x.erase(0, 0)), x -> x.erase(0, 0));
    }

    private static void eraseAnswersHowManyPencils() {
        Bounds.answers(1, Bench.stamped(1), x -> x.erase(0, 0));
        Bounds.answers(500, Bench.stamped(500), x -> x.erase(0, 0));
        Bounds.answers(0, STAMPED.times(2, x -> x.sample(0, 50)), x -> x.erase(0, 0));
        Bounds.answers(100, STAMPED.times(9, x -> x.fall(0, 9)), x -> x.erase(0, 0));
    }

    private static void eraseAsksInTheListedOrder() {
        Bounds.index(STAMPED, x -> x.erase(1, 10));
        Bounds.index(STAMPED, x -> x.erase(-1, -1));
        for (int wrong : new int[] {-1, 10}) {
            Bounds.argument(COATED, x -> x.erase(0, wrong));
            Bounds.argument(STAMPED.then(x -> x.erase(0, 0)), x -> x.erase(0, wrong));
        }
    }

    private static void somethingOfARun() {
        Bounds.numbers(GROOVED, 0, (x, n) -> x.run(n, 'n'));
        Bounds.numbers(GLUED, 1, (x, n) -> x.run(n, 'n'));
        Bounds.numbers(SIXTEEN, 16, (x, n) -> x.run(n, 'r'));
        Bounds.signs(GLUED, "nbclgor", (x, sign) -> x.run(0, sign));
        Bounds.signs(STAMPED, "nbclgor", (x, sign) -> x.run(0, sign));
        Bounds.index(GLUED, x -> x.run(1, 'x'));
        Bounds.index(GLUED, x -> x.run(-1, 'x'));
        Bounds.answers(-1, GLUED, x -> x.run(0, 'l'));
        Bounds.answers(-1, GLUED, x -> x.run(0, 'g'));
        Bounds.answers(0, GLUED, x -> x.run(0, 'c'));
        Bounds.answers(0, GLUED, x -> x.run(0, 'b'));
        Bounds.answers(0, STAMPED.times(2, x -> x.sample(0, 50)), x -> x.run(0, 'n'));
    }
}
