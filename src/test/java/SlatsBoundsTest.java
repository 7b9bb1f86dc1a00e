/** The boundary cases of promises 20 to 23, each sentence by itself. */
public final class SlatsBoundsTest {
    private static final Story NEW = new Story();
    private static final Story CEDAR = NEW.then(x -> x.slats('c', 4, 10, 100));
    private static final Story NO_GROOVER = CEDAR.then(x -> x.on('g', false));

    public static void main(String[] args) {
        aWoodIsCedarOrBasswood();
        theNumbersOfSlatsHaveRanges();
        atMost12LotsOfSlats();
        seasonAsksForSlatsAndHours();
        slatsAreSeasonedOnceTheyAreReady();
        cedarDriesBy1In6Hours();
        basswoodDriesBy1In9Hours();
        wetnessIs0AtLeast();
        seasonAsksInTheListedOrder();
        grooveAsksForSlatsAndAWidth();
        slatsAreGroovedOnceTheyAreReady();
        slatsOf11AreTooWet();
        slatsAreGroovedOnce();
        theGrooverDoesNotRun();
        grooveAsksInTheListedOrder();
        somethingOfSlats();
        Due.end();
    }

    private static void aWoodIsCedarOrBasswood() {
        Bounds.signs(NEW, "cb", (x, sign) -> x.slats(sign, 4, 20, 100));
    }

    private static void theNumbersOfSlatsHaveRanges() {
        for (char wood : new char[] {'c', 'b'}) {
            Bounds.range(NEW, 0, 9, (x, n) -> x.slats(wood, n, 20, 100));
            Bounds.range(NEW, 0, 40, (x, n) -> x.slats(wood, 4, n, 100));
            Bounds.range(NEW, 1, 500, (x, n) -> x.slats(wood, 4, 20, n));
            Story least = NEW.then(x -> x.slats(wood, 0, 0, 1));
            Bounds.answers(0, least, x -> x.slat(0, 'w'));
            Bounds.answers(1, least, x -> x.slat(0, 'n'));
            Story most = NEW.then(x -> x.slats(wood, 9, 40, 500));
            Bounds.answers(40, most, x -> x.slat(0, 'w'));
            Bounds.answers(500, most, x -> x.slat(0, 'n'));
        }
    }

    private static void atMost12LotsOfSlats() {
        Story eleven = NEW.times(11, x -> x.slats('b', 3, 3, 3));
        Bounds.answers(11, eleven, x -> x.slats('c', 4, 20, 7));
        Story full = eleven.then(x -> x.slats('c', 4, 20, 7));
        Bounds.answers(7, full, x -> x.slat(11, 'n'));
        Bounds.state(full, x -> x.slats('c', 4, 20, 100));
        Bounds.state(full, x -> x.slats('b', 4, 20, 100));
        Bounds.argument(full, x -> x.slats('x', 4, 20, 100));
        Bounds.argument(full, x -> x.slats('c', -1, 20, 100));
        Bounds.argument(full, x -> x.slats('c', 10, 20, 100));
        Bounds.argument(full, x -> x.slats('b', 4, -1, 100));
        Bounds.argument(full, x -> x.slats('b', 4, 41, 100));
        Bounds.argument(full, x -> x.slats('c', 4, 20, 0));
        Bounds.argument(full, x -> x.slats('c', 4, 20, 501));
    }

    private static void seasonAsksForSlatsAndHours() {
        Bounds.numbers(NEW, 0, (x, n) -> x.season(n, 1));
        Bounds.numbers(CEDAR, 1, (x, n) -> x.season(n, 1));
        Bounds.numbers(NEW.times(12, x -> x.slats('b', 3, 3, 3)), 12, (x, n) -> x.season(n, 1));
        Bounds.range(CEDAR, 1, 200, (x, n) -> x.season(0, n));
        Bounds.answers(1, CEDAR, x -> x.season(0, 1));
        Bounds.answers(200, CEDAR, x -> x.season(0, 200));
        Bounds.answers(207, CEDAR.then(x -> x.go(7)), x -> x.season(0, 200));
        Story last = CEDAR.times(19, x -> x.go(500)).then(x -> x.go(499));
        Bounds.answers(10199, last, x -> x.season(0, 200));
    }

    private static void slatsAreSeasonedOnceTheyAreReady() {
        Story seasoned = CEDAR.then(x -> x.season(0, 20));
        Bounds.unsupported(seasoned, x -> x.season(0, 1));
        Bounds.unsupported(seasoned.then(x -> x.go(19)), x -> x.season(0, 1));
        Bounds.answers(21, seasoned.then(x -> x.go(20)), x -> x.season(0, 1));
        Story shortly = CEDAR.then(x -> x.season(0, 1));
        Bounds.unsupported(shortly, x -> x.season(0, 200));
        Bounds.answers(201, shortly.then(x -> x.go(1)), x -> x.season(0, 200));
        Bounds.answers(2, CEDAR.then(x -> x.groove(0, 10)), x -> x.season(0, 2));
    }

    private static void cedarDriesBy1In6Hours() {
        seasons('c', 40, 1, 40);
        seasons('c', 40, 5, 40);
        seasons('c', 40, 6, 39);
        seasons('c', 40, 11, 39);
        seasons('c', 40, 12, 38);
        seasons('c', 40, 197, 8);
        seasons('c', 40, 198, 7);
        seasons('c', 40, 200, 7);
    }

    private static void basswoodDriesBy1In9Hours() {
        seasons('b', 40, 1, 40);
        seasons('b', 40, 8, 40);
        seasons('b', 40, 9, 39);
        seasons('b', 40, 17, 39);
        seasons('b', 40, 18, 38);
        seasons('b', 40, 197, 19);
        seasons('b', 40, 198, 18);
        seasons('b', 40, 200, 18);
    }

    private static void wetnessIs0AtLeast() {
        seasons('c', 34, 200, 1);
        seasons('c', 33, 200, 0);
        seasons('c', 32, 200, 0);
        seasons('c', 0, 200, 0);
        seasons('b', 23, 200, 1);
        seasons('b', 22, 200, 0);
        seasons('b', 21, 200, 0);
        seasons('b', 0, 200, 0);
    }

    /** The wetness is told so at once, and also as they are ready. */
    private static void seasons(char wood, int wetness, int hours, int then) {
        Story seasoned = NEW.then(x -> x.slats(wood, 0, wetness, 1), x -> x.season(0, hours));
        Bounds.answers(then, seasoned, x -> x.slat(0, 'w'));
        Bounds.answers(then, seasoned.then(x -> x.go(hours)), x -> x.slat(0, 'w'));
    }

    private static void seasonAsksInTheListedOrder() {
        Story seasoned = CEDAR.then(x -> x.season(0, 20));
        Bounds.index(CEDAR, x -> x.season(1, 0));
        Bounds.index(CEDAR, x -> x.season(-1, 201));
        Bounds.argument(seasoned, x -> x.season(0, 0));
        Bounds.argument(seasoned, x -> x.season(0, 201));
    }

    private static void grooveAsksForSlatsAndAWidth() {
        Bounds.numbers(NEW, 0, (x, n) -> x.groove(n, 10));
        Bounds.numbers(CEDAR, 1, (x, n) -> x.groove(n, 10));
        Bounds.numbers(NEW.times(12, x -> x.slats('b', 3, 3, 3)), 12, (x, n) -> x.groove(n, 10));
        Bounds.range(CEDAR, 5, 30, (x, n) -> x.groove(0, n));
        Bounds.answers(5, CEDAR.then(x -> x.groove(0, 5)), x -> x.slat(0, 'g'));
        Bounds.answers(30, CEDAR.then(x -> x.groove(0, 30)), x -> x.slat(0, 'g'));
        Bounds.answers(1, NEW.then(x -> x.slats('b', 0, 0, 1)), x -> x.groove(0, 10));
        Bounds.answers(500, NEW.then(x -> x.slats('b', 0, 0, 500)), x -> x.groove(0, 10));
    }

    private static void slatsAreGroovedOnceTheyAreReady() {
        Story seasoned = CEDAR.then(x -> x.season(0, 60));
        Bounds.unsupported(seasoned, x -> x.groove(0, 10));
        Bounds.unsupported(seasoned.then(x -> x.go(59)), x -> x.groove(0, 10));
        Bounds.answers(100, seasoned.then(x -> x.go(60)), x -> x.groove(0, 10));
    }

    private static void slatsOf11AreTooWet() {
        Bounds.answers(100, CEDAR, x -> x.groove(0, 10));
        Bounds.unsupported(NEW.then(x -> x.slats('c', 4, 11, 100)), x -> x.groove(0, 10));
        Bounds.unsupported(NEW.then(x -> x.slats('b', 4, 40, 100)), x -> x.groove(0, 10));
        Story drier = NEW.then(x -> x.slats('c', 4, 12, 100), x -> x.season(0, 11), x -> x.go(11));
        Bounds.unsupported(drier, x -> x.groove(0, 10));
        Story dry = NEW.then(x -> x.slats('c', 4, 12, 100), x -> x.season(0, 12), x -> x.go(12));
        Bounds.answers(100, dry, x -> x.groove(0, 10));
    }

    private static void slatsAreGroovedOnce() {
        Story least = CEDAR.then(x -> x.groove(0, 5));
        Bounds.unsupported(least, x -> x.groove(0, 5));
        Bounds.unsupported(least, x -> x.groove(0, 10));
        Bounds.unsupported(CEDAR.then(x -> x.groove(0, 30)), x -> x.groove(0, 10));
        Bounds.unsupported(least.then(x -> x.season(0, 1), x -> x.go(1)), x -> x.groove(0, 10));
    }

    private static void theGrooverDoesNotRun() {
        Bounds.unsupported(NO_GROOVER, x -> x.groove(0, 10));
        Bounds.unsupported(CEDAR.then(x -> x.shaft(false)), x -> x.groove(0, 10));
        Story driven = CEDAR.then(x -> x.belt('g', 'm'), x -> x.belt('m', 'p'), x -> x.belt('p', 'c'));
        Bounds.answers(100, driven, x -> x.groove(0, 10));
        Bounds.unsupported(driven.then(x -> x.on('c', false)), x -> x.groove(0, 10));
        Story others = CEDAR.then(x -> x.on('m', false), x -> x.on('p', false), x -> x.on('c', false));
        Bounds.answers(100, others, x -> x.groove(0, 10));
    }

    private static void grooveAsksInTheListedOrder() {
        Bounds.index(CEDAR, x -> x.groove(1, 4));
        Bounds.index(CEDAR, x -> x.groove(-1, 31));
        Bounds.index(NO_GROOVER, x -> x.groove(1, 10));
        Bounds.argument(NO_GROOVER, x -> x.groove(0, 4));
        Bounds.argument(NO_GROOVER, x -> x.groove(0, 31));
        Bounds.argument(CEDAR.then(x -> x.season(0, 20)), x -> x.groove(0, 4));
        Bounds.argument(CEDAR.then(x -> x.season(0, 20)), x -> x.groove(0, 31));
        Bounds.argument(NEW.then(x -> x.slats('c', 4, 11, 100)), x -> x.groove(0, 4));
        Bounds.argument(NEW.then(x -> x.slats('c', 4, 11, 100)), x -> x.groove(0, 31));
        Bounds.argument(CEDAR.then(x -> x.groove(0, 10)), x -> x.groove(0, 4));
        Bounds.argument(CEDAR.then(x -> x.groove(0, 10)), x -> x.groove(0, 31));
    }

    private static void somethingOfSlats() {
        Bounds.numbers(NEW, 0, (x, n) -> x.slat(n, 'n'));
        Bounds.numbers(CEDAR, 1, (x, n) -> x.slat(n, 'n'));
        Bounds.numbers(NEW.times(12, x -> x.slats('b', 3, 3, 3)), 12, (x, n) -> x.slat(n, 'n'));
        Bounds.signs(CEDAR, "nwgr", (x, sign) -> x.slat(0, sign));
        Bounds.index(CEDAR, x -> x.slat(1, 'x'));
        Bounds.index(CEDAR, x -> x.slat(-1, 'x'));
        Bounds.answers(0, CEDAR.then(x -> x.go(7)), x -> x.slat(0, 'g'));
        Bounds.answers(0, CEDAR.then(x -> x.go(7)), x -> x.slat(0, 'r'));
        Bounds.answers(0, CEDAR.then(x -> x.go(7), x -> x.groove(0, 10)), x -> x.slat(0, 'r'));
        Bounds.answers(8, CEDAR.then(x -> x.go(7), x -> x.season(0, 1)), x -> x.slat(0, 'r'));
    }
}
