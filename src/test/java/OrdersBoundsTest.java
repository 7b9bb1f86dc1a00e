/** The boundary cases of promises 34 to 36, each sentence by itself. */
public final class OrdersBoundsTest {
    private static final Story NEW = new Story();
    private static final Story AT_10 = NEW.then(x -> x.go(10));
    private static final Story TWELVE = AT_10.times(12, x -> x.order(0, 1, 10));
    /** Grosses 0 and 1 are full and of 18, 2 is of 18 and one less than full, 3 is of 17; the hour is 49. */
    private static final Story PACKED = Bench.stamped(500).then(
        x -> x.gross(18), x -> x.gross(18), x -> x.gross(18), x -> x.gross(17),
        x -> x.pack(0, 0, 144), x -> x.pack(1, 0, 144), x -> x.pack(2, 0, 143));
    /** Order 0 is for one of 18, order 1 for three, order 2 for one of 17, each until the hour 49. */
    private static final Story ORDERED = PACKED.then(
        x -> x.order(18, 1, 49), x -> x.order(18, 3, 49), x -> x.order(17, 1, 49));

    public static void main(String[] args) {
        gradeAndGrossesHaveRanges();
        anHourIs0To9999();
        theHourHasGoneBy();
        atMost12Orders();
        shipAsksForAnOrderAndAGross();
        theGrossIsNotFull();
        theGrossIsOfAnotherGrade();
        theGrossWasShipped();
        theOrderLacksNone();
        shipAnswersHowManyTheOrderLacks();
        shipAsksInTheListedOrder();
        isLateAsksForAnOrder();
        anOrderIsLateBehindItsHourWhileItLacksSome();
        anOrderIsLateIfSomeWasShippedBehindItsHour();
        anOrderShippedAtItsHourIsNotLate();
        Due.end();
    }

    private static void gradeAndGrossesHaveRanges() {
        Bounds.range(NEW, 0, 19, (x, n) -> x.order(n, 1, 0));
        Bounds.range(NEW, 1, 9, (x, n) -> x.order(0, n, 0));
        Bounds.answers(0, NEW, x -> x.order(0, 1, 0));
        Bounds.answers(1, NEW.then(x -> x.order(0, 1, 0)), x -> x.order(19, 9, 9999));
    }

    private static void anHourIs0To9999() {
        Bounds.range(NEW, 0, 9999, (x, n) -> x.order(0, 1, n));
        Bounds.argument(NEW, x -> x.order(0, 1, 270371432));
        Story last = NEW.times(19, x -> x.go(500)).then(x -> x.go(499));
        Bounds.range(last, 9999, 9999, (x, n) -> x.order(0, 1, n));
    }

    private static void theHourHasGoneBy() {
        Bounds.range(AT_10, 10, 9999, (x, n) -> x.order(0, 1, n));
        Bounds.argument(AT_10, x -> x.order(0, 1, 0));
        Bounds.argument(NEW.then(x -> x.go(1)), x -> x.order(0, 1, 0));
        Bounds.answers(0, NEW.then(x -> x.go(1)), x -> x.order(0, 1, 1));
    }

    private static void atMost12Orders() {
        Bounds.answers(11, AT_10.times(11, x -> x.order(0, 1, 10)), x -> x.order(0, 1, 10));
        Bounds.state(TWELVE, x -> x.order(0, 1, 10));
        Bounds.state(TWELVE, x -> x.order(19, 9, 9999));
        for (int wrong : new int[] {-1, 20}) {
            Bounds.argument(TWELVE, x -> x.order(wrong, 1, 10));
        }
        for (int wrong : new int[] {0, 10}) {
            Bounds.argument(TWELVE, x -> x.order(0, wrong, 10));
        }
        for (int wrong : new int[] {-1, 0, 9, 10000, Integer.MAX_VALUE}) {
            Bounds.argument(TWELVE, x -> x.order(0, 1, wrong));
        }
    }

    private static void shipAsksForAnOrderAndAGross() {
        for (int wrong : new int[] {-1, 3, Integer.MIN_VALUE, Integer.MAX_VALUE}) {
            Bounds.index(ORDERED, x -> x.ship(wrong, 0));
        }
        for (int wrong : new int[] {-1, 4, Integer.MIN_VALUE, Integer.MAX_VALUE}) {
            Bounds.index(ORDERED, x -> x.ship(0, wrong));
            Bounds.index(ORDERED, x -> x.ship(wrong, wrong));
        }
        Bounds.index(PACKED, x -> x.ship(0, 0));
        Bounds.index(TWELVE, x -> x.ship(11, 0));
        Bounds.index(TWELVE.then(x -> x.gross(0)), x -> x.ship(12, 0));
    }

    private static void theGrossIsNotFull() {
        Bounds.unsupported(ORDERED, x -> x.ship(0, 2));
        Bounds.answers(0, ORDERED.then(x -> x.pack(2, 0, 1)), x -> x.ship(0, 2));
        Bounds.unsupported(ORDERED, x -> x.ship(2, 3));
        Bounds.unsupported(ORDERED.then(x -> x.gross(18)), x -> x.ship(0, 4));
    }

    private static void theGrossIsOfAnotherGrade() {
        Bounds.unsupported(ORDERED, x -> x.ship(2, 0));
        Bounds.unsupported(ORDERED.then(x -> x.order(19, 9, 49)), x -> x.ship(3, 0));
    }

    private static void theGrossWasShipped() {
        Story shipped = ORDERED.then(x -> x.ship(1, 0));
        Bounds.unsupported(shipped, x -> x.ship(1, 0));
        Bounds.unsupported(shipped, x -> x.ship(0, 0));
        Bounds.answers(0, shipped, x -> x.ship(0, 1));
        Bounds.answers(1, shipped, x -> x.ship(1, 1));
    }

    private static void theOrderLacksNone() {
        Story done = ORDERED.then(x -> x.ship(0, 0));
        Bounds.unsupported(done, x -> x.ship(0, 1));
        Bounds.answers(2, done, x -> x.ship(1, 1));
    }

    private static void shipAnswersHowManyTheOrderLacks() {
        Bounds.answers(0, ORDERED, x -> x.ship(0, 0));
        Bounds.answers(2, ORDERED, x -> x.ship(1, 0));
        Story more = ORDERED.then(x -> x.pack(2, 0, 1), x -> x.ship(1, 0));
        Bounds.answers(1, more, x -> x.ship(1, 1));
        Bounds.answers(0, more.then(x -> x.ship(1, 1)), x -> x.ship(1, 2));
        Bounds.answers(8, PACKED.then(x -> x.order(18, 9, 49)), x -> x.ship(0, 0));
    }

    private static void shipAsksInTheListedOrder() {
        Story done = ORDERED.then(x -> x.ship(0, 0));
        Bounds.index(done, x -> x.ship(3, 0));
        Bounds.index(done, x -> x.ship(3, 2));
        Bounds.index(done, x -> x.ship(-1, 3));
        Bounds.index(done, x -> x.ship(0, 4));
        Bounds.index(done, x -> x.ship(0, -1));
    }

    private static void isLateAsksForAnOrder() {
        Bounds.numbers(NEW, 0, (x, n) -> x.isLate(n));
        Bounds.numbers(ORDERED, 3, (x, n) -> x.isLate(n));
        Bounds.numbers(TWELVE, 12, (x, n) -> x.isLate(n));
    }

    private static void anOrderIsLateBehindItsHourWhileItLacksSome() {
        Bounds.answers(false, ORDERED, x -> x.isLate(0));
        Bounds.answers(true, ORDERED.then(x -> x.go(1)), x -> x.isLate(0));
        Bounds.answers(true, ORDERED.then(x -> x.go(500)), x -> x.isLate(0));
        Story some = ORDERED.then(x -> x.ship(1, 0), x -> x.ship(1, 1));
        Bounds.answers(false, some, x -> x.isLate(1));
        Bounds.answers(true, some.then(x -> x.go(1)), x -> x.isLate(1));
        Story next = PACKED.then(x -> x.order(18, 1, 50), x -> x.go(1));
        Bounds.answers(false, next, x -> x.isLate(0));
        Bounds.answers(true, next.then(x -> x.go(1)), x -> x.isLate(0));
        Story last = NEW.times(19, x -> x.go(500)).then(x -> x.order(0, 1, 9999), x -> x.go(499));
        Bounds.answers(false, last, x -> x.isLate(0));
        Bounds.answers(true, NEW.then(x -> x.order(0, 9, 0), x -> x.go(1)), x -> x.isLate(0));
    }

    private static void anOrderIsLateIfSomeWasShippedBehindItsHour() {
        Story behind = ORDERED.then(x -> x.go(1), x -> x.ship(0, 0));
        Bounds.answers(true, behind, x -> x.isLate(0));
        Bounds.answers(true, behind.then(x -> x.go(500)), x -> x.isLate(0));
        Story oneOfTwo = PACKED.then(x -> x.order(18, 2, 49), x -> x.ship(0, 0), x -> x.go(1), x -> x.ship(0, 1));
        Bounds.answers(true, oneOfTwo, x -> x.isLate(0));
    }

    private static void anOrderShippedAtItsHourIsNotLate() {
        Story at = ORDERED.then(x -> x.ship(0, 0));
        Bounds.answers(false, at, x -> x.isLate(0));
        Bounds.answers(false, at.then(x -> x.go(1)), x -> x.isLate(0));
        Bounds.answers(false, at.then(x -> x.go(500)), x -> x.isLate(0));
        Story bothAt = PACKED.then(x -> x.order(18, 2, 49), x -> x.ship(0, 0), x -> x.ship(0, 1), x -> x.go(1));
        Bounds.answers(false, bothAt, x -> x.isLate(0));
    }
}
