/** The boundary cases of promises 32, 33 and 37 to 39, each sentence by itself; those of orders stand in OrdersBoundsTest. */
public final class GrossesBoundsTest {
    private static final Story NEW = new Story();
    /** Run 0 of 300 pencils, stamped 18, and grosses 0 and 1 of 18, 2 of 17. */
    private static final Story STAMPED = Bench.stamped(300).then(x -> x.gross(18), x -> x.gross(18), x -> x.gross(17));
    private static final Story FULL = STAMPED.then(x -> x.pack(0, 0, 144));
    private static final Story SHIPPED = FULL.then(x -> x.order(18, 9, 9999), x -> x.ship(0, 0));
    /** Run 0 of 100 pencils, 41 of them broken. */
    private static final Story BROKEN = Bench.stamped(100).then(x -> x.fall(0, 9), x -> x.gross(18), x -> x.gross(18));

    public static void main(String[] args) {
        aGradeIs0To19();
        atMost30Grosses();
        packAsksForAGrossARunAndHowMany();
        theRunWasNotStampedSo();
        theRunIsNotReady();
        theRunHasNotAsMuch();
        aGrossHasAtMost144();
        aShippedGrossTakesNone();
        packAsksInTheListedOrder();
        brokenOnesGoLast();
        claimAsksForAGross();
        aGradeAtMost1FromTheStampIsTrue();
        waxMayLeadBackToTheStamp();
        aBrokenPencilOfAPartIsNotTrue();
        eachPartHasToBeTrue();
        partsAreThoseOfAGross();
        traceAsksForAGrossAndAPart();
        traceIsOfOneOfTenThings();
        traceAsksInTheListedOrder();
        aRefusedFiringLeavesTheTrace();
        Due.end();
    }

    private static void aGradeIs0To19() {
        Bounds.range(NEW, 0, 19, (x, n) -> x.gross(n));
        Bounds.answers(0, NEW, x -> x.gross(0));
        Bounds.answers(1, NEW.then(x -> x.gross(19)), x -> x.gross(19));
    }

    private static void atMost30Grosses() {
        Story last = NEW.times(29, x -> x.gross(7));
        Bounds.answers(29, last, x -> x.gross(7));
        Story full = NEW.times(30, x -> x.gross(7));
        Bounds.state(full, x -> x.gross(7));
        Bounds.state(full, x -> x.gross(0));
        Bounds.state(full, x -> x.gross(19));
        Bounds.argument(full, x -> x.gross(-1));
        Bounds.argument(full, x -> x.gross(20));
    }

    private static void packAsksForAGrossARunAndHowMany() {
        for (int wrong : new int[] {-1, 3, Integer.MIN_VALUE, Integer.MAX_VALUE}) {
            Bounds.index(STAMPED, x -> x.pack(wrong, 0, 1));
            Bounds.index(STAMPED, x -> x.pack(wrong, wrong, 1));
        }
        for (int wrong : new int[] {-1, 1, Integer.MIN_VALUE, Integer.MAX_VALUE}) {
            Bounds.index(STAMPED, x -> x.pack(0, wrong, 1));
        }
        Bounds.range(STAMPED, 1, 144, (x, n) -> x.pack(0, 0, n));
        Bounds.answers(1, STAMPED, x -> x.pack(1, 0, 1));
        Bounds.answers(144, STAMPED, x -> x.pack(1, 0, 144));
        Bounds.answers(156, FULL, x -> x.run(0, 'n'));
        Story thirty = Bench.stamped(100).times(30, x -> x.gross(18));
        Bounds.answers(1, thirty, x -> x.pack(29, 0, 1));
        Bounds.index(thirty, x -> x.pack(30, 0, 1));
    }

    private static void theRunWasNotStampedSo() {
        Bounds.unsupported(STAMPED, x -> x.pack(2, 0, 1));
        Bounds.unsupported(Bench.coated(100).then(x -> x.gross(18)), x -> x.pack(0, 0, 1));
        Bounds.unsupported(Bench.coated(100).then(x -> x.gross(0)), x -> x.pack(0, 0, 1));
        Story other = Bench.stamped(100).then(x -> x.gross(17), x -> x.gross(19), x -> x.gross(0));
        Bounds.unsupported(other, x -> x.pack(0, 0, 1));
        Bounds.unsupported(other, x -> x.pack(1, 0, 1));
        Bounds.unsupported(other, x -> x.pack(2, 0, 1));
    }

    private static void theRunIsNotReady() {
        Story coated = STAMPED.then(x -> x.coat(0, 1));
        Bounds.unsupported(coated, x -> x.pack(0, 0, 1));
        Bounds.unsupported(coated.then(x -> x.go(7)), x -> x.pack(0, 0, 1));
        Bounds.answers(1, coated.then(x -> x.go(8)), x -> x.pack(0, 0, 1));
    }

    private static void theRunHasNotAsMuch() {
        Story ten = Bench.stamped(10).then(x -> x.gross(18), x -> x.gross(18));
        Bounds.answers(10, ten, x -> x.pack(0, 0, 10));
        Bounds.unsupported(ten, x -> x.pack(0, 0, 11));
        Bounds.unsupported(ten, x -> x.pack(0, 0, 144));
        Story none = ten.then(x -> x.pack(0, 0, 10));
        Bounds.answers(0, none, x -> x.run(0, 'n'));
        Bounds.unsupported(none, x -> x.pack(0, 0, 1));
        Bounds.unsupported(none, x -> x.pack(1, 0, 1));
        Bounds.unsupported(ten.then(x -> x.sample(0, 10)), x -> x.pack(0, 0, 1));
        Bounds.answers(9, ten.then(x -> x.sample(0, 1)), x -> x.pack(0, 0, 9));
        Bounds.unsupported(ten.then(x -> x.sample(0, 1)), x -> x.pack(0, 0, 10));
    }

    private static void aGrossHasAtMost144() {
        Bounds.unsupported(FULL, x -> x.pack(0, 0, 1));
        Bounds.unsupported(FULL, x -> x.pack(0, 0, 144));
        Bounds.answers(144, FULL, x -> x.pack(1, 0, 144));
        Story lessOne = STAMPED.then(x -> x.pack(0, 0, 143));
        Bounds.answers(144, lessOne, x -> x.pack(0, 0, 1));
        Bounds.unsupported(lessOne, x -> x.pack(0, 0, 2));
        Story some = STAMPED.then(x -> x.pack(0, 0, 100));
        Bounds.answers(144, some, x -> x.pack(0, 0, 44));
        Bounds.unsupported(some, x -> x.pack(0, 0, 45));
    }

    /** A shipped gross is full, so it would have more than 144 as well. */
    private static void aShippedGrossTakesNone() {
        Bounds.unsupported(SHIPPED, x -> x.pack(0, 0, 1));
        Bounds.unsupported(SHIPPED, x -> x.pack(0, 0, 144));
        Bounds.answers(1, SHIPPED, x -> x.pack(1, 0, 1));
    }

    private static void packAsksInTheListedOrder() {
        Bounds.index(STAMPED, x -> x.pack(3, 0, 0));
        Bounds.index(STAMPED, x -> x.pack(-1, 0, 145));
        Bounds.index(STAMPED, x -> x.pack(0, 1, 0));
        Bounds.index(STAMPED, x -> x.pack(0, -1, 145));
        Bounds.index(Bench.coated(100).then(x -> x.gross(18)), x -> x.pack(1, 0, 1));
        Bounds.index(Bench.coated(100), x -> x.pack(0, 0, 1));
        Bounds.index(FULL, x -> x.pack(0, 1, 1));
        Bounds.index(SHIPPED, x -> x.pack(0, 1, 1));
        for (int wrong : new int[] {0, 145}) {
            Bounds.argument(STAMPED, x -> x.pack(2, 0, wrong));
            Bounds.argument(Bench.coated(100).then(x -> x.gross(18)), x -> x.pack(0, 0, wrong));
            Bounds.argument(STAMPED.then(x -> x.coat(0, 1)), x -> x.pack(0, 0, wrong));
            Bounds.argument(Bench.stamped(10).then(x -> x.gross(18)), x -> x.pack(0, 0, wrong));
            Bounds.argument(FULL, x -> x.pack(0, 0, wrong));
            Bounds.argument(SHIPPED, x -> x.pack(0, 0, wrong));
        }
    }

    /** 59 of the run are whole. */
    private static void brokenOnesGoLast() {
        packs(58, 0, 41);
        packs(59, 0, 41);
        packs(60, 1, 40);
        packs(99, 40, 1);
        packs(100, 41, 0);
        Story whole = BROKEN.then(x -> x.pack(0, 0, 59));
        Bounds.answers(60, whole, x -> x.pack(0, 0, 1));
        Bounds.answers(1, whole.then(x -> x.pack(0, 0, 1)), x -> x.trace(0, 1, 'x'));
        Bounds.answers(41, whole.then(x -> x.pack(0, 0, 41)), x -> x.trace(0, 1, 'x'));
        Bounds.answers(0, Bench.stamped(1).then(x -> x.gross(18), x -> x.pack(0, 0, 1)), x -> x.trace(0, 0, 'x'));
    }

    private static void packs(int many, int broken, int brokenLeft) {
        Story packed = BROKEN.then(x -> x.pack(1, 0, many));
        Bounds.answers(many, packed, x -> x.trace(1, 0, 'n'));
        Bounds.answers(broken, packed, x -> x.trace(1, 0, 'x'));
        Bounds.answers(100 - many, packed, x -> x.run(0, 'n'));
        Bounds.answers(brokenLeft, packed, x -> x.run(0, 'b'));
    }

    private static void claimAsksForAGross() {
        Bounds.numbers(NEW, 0, (x, n) -> x.claim(n));
        Bounds.numbers(STAMPED, 3, (x, n) -> x.claim(n));
        Bounds.numbers(NEW.times(30, x -> x.gross(7)), 30, (x, n) -> x.claim(n));
        Bounds.answers(true, STAMPED, x -> x.claim(0));
        Bounds.answers(true, FULL, x -> x.claim(0));
        Bounds.answers(true, SHIPPED, x -> x.claim(0));
    }

    /** A wheel that has drifted, by 3 behind each 8th draw, stamps more than the darkness: a grade of 1 more, or of 2. */
    private static void aGradeAtMost1FromTheStampIsTrue() {
        claims(900, 0, 18, true);
        claims(900, 16 * 8, 18, true);
        claims(900, 17 * 8, 19, true);
        claims(749, 0, 14, true);
        claims(749, 8, 15, true);
        claims(749, 16 * 8, 15, true);
        claims(749, 17 * 8, 16, false);
    }

    private static void claims(int darkness, int draws, int stamp, boolean isTrue) {
        Story coated = dark(darkness).times(draws, x -> x.draw(0));
        Bounds.answers(darkness, coated, x -> x.batch(0, 'd'));
        Bounds.answers(stamp, coated, x -> x.stamp(0));
        Story packed = coated.then(x -> x.stamp(0), x -> x.gross(stamp), x -> x.pack(0, 0, 10));
        Bounds.answers(isTrue, packed, x -> x.claim(0));
        Bounds.answers(isTrue, packed.then(x -> x.check()), x -> x.claim(0));
    }

    /** The darkness by now is asked, not that of the stamp: a wax makes 757 to 789 of 749. */
    private static void waxMayLeadBackToTheStamp() {
        Story apart = dark(749).times(17 * 8, x -> x.draw(0))
            .then(x -> x.stamp(0), x -> x.gross(16), x -> x.pack(0, 0, 10));
        Bounds.answers(false, apart, x -> x.claim(0));
        Bounds.answers(true, apart.then(x -> x.soak(0, 1)), x -> x.claim(0));
        Story same = dark(749).then(x -> x.stamp(0), x -> x.gross(14), x -> x.pack(0, 0, 10));
        Bounds.answers(true, same.then(x -> x.soak(0, 1)), x -> x.claim(0));
        Bounds.answers(true, same.then(x -> x.soak(0, 5)), x -> x.claim(0));
    }

    /** Run 0 with its coats, of a batch of such a darkness: its carbon less a tenth of the heat above 700, no fineness. */
    private static Story dark(int darkness) {
        int graphite = (500 * darkness + 989) / 990;
        int heat = 700 + 10 * (990 * graphite / 500 - darkness);
        return NEW.then(
            x -> x.lot('g', 99, 9, 500), x -> x.lot('c', 99, 9, 500), x -> x.mix(0, 1, graphite, 500 - graphite, 1),
            x -> x.press(0, 0, 10), x -> x.dry(0, 5), x -> x.go(4), x -> x.fire(0, 0, heat, 1), x -> x.go(1),
            x -> x.slats('c', 0, 0, 100), x -> x.groove(0, 10), x -> x.lay(0, 0, '6', 10, 0), x -> x.go(6))
            .times(3, x -> x.coat(0, 1), x -> x.go(8));
    }

    private static void aBrokenPencilOfAPartIsNotTrue() {
        Bounds.answers(true, BROKEN.then(x -> x.pack(0, 0, 59)), x -> x.claim(0));
        Bounds.answers(false, BROKEN.then(x -> x.pack(0, 0, 60)), x -> x.claim(0));
        Bounds.answers(true, BROKEN.then(x -> x.pack(0, 0, 60)), x -> x.claim(1));
        Story whole = Bench.stamped(100).then(x -> x.gross(18), x -> x.pack(0, 0, 50));
        Bounds.answers(true, whole.times(9, x -> x.fall(0, 9)), x -> x.claim(0));
    }

    private static void eachPartHasToBeTrue() {
        Story three = BROKEN.then(x -> x.pack(0, 0, 29), x -> x.pack(0, 0, 29));
        Bounds.answers(true, three.then(x -> x.pack(0, 0, 1)), x -> x.claim(0));
        Bounds.answers(false, three.then(x -> x.pack(0, 0, 2)), x -> x.claim(0));
        Story first = BROKEN.then(
            x -> x.pack(1, 0, 59), x -> x.pack(0, 0, 1), x -> x.lay(0, 0, '6', 10, 0), x -> x.go(6))
            .times(3, x -> x.coat(1, 1), x -> x.go(8)).then(x -> x.stamp(1), x -> x.pack(0, 1, 10));
        Bounds.answers(0, first, x -> x.trace(0, 1, 'x'));
        Bounds.answers(false, first, x -> x.claim(0));
    }

    private static void partsAreThoseOfAGross() {
        Bounds.numbers(NEW, 0, (x, n) -> x.parts(n));
        Bounds.numbers(STAMPED, 3, (x, n) -> x.parts(n));
        Bounds.numbers(NEW.times(30, x -> x.gross(7)), 30, (x, n) -> x.parts(n));
        Bounds.answers(0, STAMPED, x -> x.parts(0));
        Bounds.answers(1, FULL, x -> x.parts(0));
        Bounds.answers(0, FULL, x -> x.parts(1));
        Story most = STAMPED.times(144, x -> x.pack(0, 0, 1));
        Bounds.answers(144, most, x -> x.parts(0));
        Bounds.unsupported(most, x -> x.pack(0, 0, 1));
    }

    private static void traceAsksForAGrossAndAPart() {
        for (int wrong : new int[] {-1, 3, Integer.MIN_VALUE, Integer.MAX_VALUE}) {
            Bounds.index(FULL, x -> x.trace(wrong, 0, 'r'));
        }
        Bounds.index(FULL, x -> x.trace(1, 0, 'r'));
        Bounds.numbers(FULL, 1, (x, n) -> x.trace(0, n, 'r'));
        Bounds.numbers(FULL.times(12, x -> x.pack(1, 0, 12)), 12, (x, n) -> x.trace(1, n, 'r'));
        Story most = STAMPED.times(144, x -> x.pack(0, 0, 1));
        Bounds.answers(1, most, x -> x.trace(0, 143, 'n'));
        Bounds.index(most, x -> x.trace(0, 144, 'n'));
    }

    private static void traceIsOfOneOfTenThings() {
        Bounds.signs(FULL, "rnxbfkshgc", (x, sign) -> x.trace(0, 0, sign));
        String names = "rnxbfkshgc";
        int[] due = {0, 144, 0, 0, 0, 0, 0, 7, 0, 1};
        for (int i = 0; i < due.length; i++) {
            char what = names.charAt(i);
            Bounds.answers(due[i], FULL, x -> x.trace(0, 0, what));
        }
    }

    private static void traceAsksInTheListedOrder() {
        Bounds.index(FULL, x -> x.trace(3, 0, '?'));
        Bounds.index(FULL, x -> x.trace(-1, 0, '?'));
        Bounds.index(FULL, x -> x.trace(0, 1, '?'));
        Bounds.index(FULL, x -> x.trace(0, -1, '?'));
        Bounds.index(FULL, x -> x.trace(1, 0, '?'));
    }

    private static void aRefusedFiringLeavesTheTrace() {
        Bounds.unsupported(FULL, x -> x.fire(0, 1, 1200, 12));
        Bounds.argument(FULL, x -> x.fire(0, 1, 699, 12));
        Bounds.argument(FULL, x -> x.fire(0, 2, 700, 12));
    }
}
