/** The boundary cases of promises 18 and 19, each sentence by itself. */
public final class WheelBoundsTest {
    private static final Story FIRED = Bench.fired();

    public static void main(String[] args) {
        drawAsksForABatch();
        aBatchIsDrawnOnceItIsFired();
        aBatchIsDrawnOnceItIsReady();
        aDrawTakesNoLead();
        theBiasIs3MoreBehindEach8thDraw();
        drawsOfAllBatchesCount();
        aStampIsADraw();
        aCheckAnswersTheBiasAndSetsItTo0();
        aCheckIsNoDraw();
        theWheelTells0To999();
        Due.end();
    }

    private static Story drawn(Story story, int times) {
        return story.times(times, x -> x.draw(0));
    }

    private static void drawAsksForABatch() {
        Bounds.numbers(Bench.mixed(), 0, (x, n) -> x.draw(n));
        Bounds.numbers(FIRED, 1, (x, n) -> x.draw(n));
    }

    private static void aBatchIsDrawnOnceItIsFired() {
        Story pressed = Bench.mixed().then(x -> x.press(0, 0, 1));
        Bounds.unsupported(pressed, x -> x.draw(0));
        Bounds.unsupported(pressed.then(x -> x.dry(0, 1)), x -> x.draw(0));
        Bounds.unsupported(pressed.then(x -> x.dry(0, 1), x -> x.go(18)), x -> x.draw(0));
        Bounds.unsupported(drawn(FIRED, 7).then(x -> x.press(0, 0, 1)), x -> x.draw(1));
    }

    private static void aBatchIsDrawnOnceItIsReady() {
        Story fired = Bench.mixed().then(
            x -> x.press(0, 0, 1), x -> x.dry(0, 1), x -> x.go(18), x -> x.fire(0, 0, 700, 12));
        Bounds.unsupported(fired, x -> x.draw(0));
        Bounds.unsupported(fired.then(x -> x.go(11)), x -> x.draw(0));
        Bounds.answers(936, fired.then(x -> x.go(12)), x -> x.draw(0));
    }

    private static void aDrawTakesNoLead() {
        Bounds.answers(1000, drawn(FIRED, 1), x -> x.batch(0, 'n'));
        Story none = Bench.grooved().times(2, x -> x.lay(0, 0, '3', 500, 0));
        Bounds.answers(0, none, x -> x.batch(0, 'n'));
        Bounds.answers(936, none, x -> x.draw(0));
    }

    private static void theBiasIs3MoreBehindEach8thDraw() {
        for (int draws = 0; draws <= 33; draws++) {
            Bounds.answers(936 + draws / 8 * 3, drawn(FIRED, draws), x -> x.draw(0));
            Bounds.answers(draws / 8 * 3, drawn(FIRED, draws), x -> x.check());
        }
    }

    private static void drawsOfAllBatchesCount() {
        Story two = FIRED.then(
            x -> x.press(0, 0, 1), x -> x.dry(1, 5), x -> x.go(4), x -> x.fire(1, 0, 800, 1), x -> x.go(1));
        Story seven = two.times(4, x -> x.draw(0)).times(3, x -> x.draw(1));
        Bounds.answers(926, seven, x -> x.draw(1));
        Bounds.answers(929, seven.then(x -> x.draw(0)), x -> x.draw(1));
        Bounds.answers(939, seven.then(x -> x.draw(1)), x -> x.draw(0));
    }

    private static void aStampIsADraw() {
        Story coated = Bench.coated(10);
        Bounds.answers(0, drawn(coated, 6).then(x -> x.stamp(0)), x -> x.check());
        Bounds.answers(3, drawn(coated, 7).then(x -> x.stamp(0)), x -> x.check());
        Bounds.answers(939, drawn(coated, 7).then(x -> x.stamp(0)), x -> x.draw(0));
        Bounds.answers(18, drawn(coated, 39), x -> x.stamp(0));
        Bounds.answers(19, drawn(coated, 40), x -> x.stamp(0));
    }

    private static void aCheckAnswersTheBiasAndSetsItTo0() {
        Bounds.answers(0, new Story(), x -> x.check());
        for (int draws : new int[] {0, 7, 8, 15, 16}) {
            Story checked = drawn(FIRED, draws).then(x -> x.check());
            Bounds.answers(0, checked, x -> x.check());
            Bounds.answers(936, drawn(checked, 7), x -> x.draw(0));
            Bounds.answers(939, drawn(checked, 8), x -> x.draw(0));
        }
    }

    private static void aCheckIsNoDraw() {
        Story checks = FIRED.times(9, x -> x.check());
        Bounds.answers(0, checks, x -> x.check());
        Bounds.answers(936, drawn(checks, 7), x -> x.draw(0));
        Bounds.answers(939, drawn(checks, 8), x -> x.draw(0));
    }

    /** Graphite and clay of 49 to 2 make a darkness of 996, less a tenth of the heat above 700. */
    private static void theWheelTells0To999() {
        Story at996 = dark(49, 2, 700);
        Bounds.answers(996, at996, x -> x.draw(0));
        Bounds.answers(999, drawn(at996, 8), x -> x.draw(0));
        Bounds.answers(999, drawn(at996, 16), x -> x.draw(0));
        Bounds.answers(6, drawn(at996, 16), x -> x.check());
        Story at995 = dark(49, 2, 710);
        Bounds.answers(998, drawn(at995, 8), x -> x.draw(0));
        Bounds.answers(999, drawn(at995, 16), x -> x.draw(0));
        Bounds.answers(999, dark(27, 1, 700), x -> x.draw(0));
        Story at0 = dark(1, 499, 1200);
        Bounds.answers(0, at0, x -> x.draw(0));
        Bounds.answers(0, drawn(at0, 7), x -> x.draw(0));
        Bounds.answers(3, drawn(at0, 8), x -> x.draw(0));
    }

    private static Story dark(int kilos, int more, int heat) {
        return new Story().then(
            x -> x.lot('g', 99, 1, 500), x -> x.lot('c', 99, 1, 500), x -> x.mix(0, 1, kilos, more, 9),
            x -> x.press(0, 0, 1), x -> x.dry(0, 5), x -> x.go(4), x -> x.fire(0, 0, heat, 1), x -> x.go(1));
    }
}
