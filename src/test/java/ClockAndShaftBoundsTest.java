/** The boundary cases of promises 1 to 6, each sentence by itself. */
public final class ClockAndShaftBoundsTest {
    private static final Story NEW = new Story();
    private static final char[] MACHINES = {'m', 'p', 'g', 'c'};

    public static void main(String[] args) {
        aNewWorksIsWithoutLots();
        aNewWorksHasAShaftThatRuns();
        aNewWorksIsAtTheHour0();
        hoursAre1To500();
        theClockEndsAt9999();
        hoursOutOfRangeComeAheadOfTheClocksEnd();
        shaftAnswersWhetherItRan();
        aMachineIsOneOfFour();
        aMachineIsNotDrivenByItself();
        noRingOfTwo();
        noRingOfThree();
        noRingOfFour();
        aChainOfFourIsNoRing();
        aMachineRunsIfAllThatDrivesItRuns();
        Due.end();
    }

    private static void aNewWorksIsWithoutLots() {
        Bounds.numbers(NEW, 0, (x, n) -> x.kilos(n));
        Bounds.numbers(NEW, 0, (x, n) -> x.mix(n, 0, 1, 1, 1));
        Bounds.numbers(NEW, 0, (x, n) -> x.mix(0, n, 1, 1, 1));
        Bounds.numbers(NEW, 0, (x, n) -> x.mixture(n, 'c'));
        Bounds.numbers(NEW, 0, (x, n) -> x.press(n, 0, 1));
        Bounds.numbers(NEW, 0, (x, n) -> x.dry(n, 1));
        Bounds.numbers(NEW, 0, (x, n) -> x.fire(n, 0, 700, 1));
        Bounds.numbers(NEW, 0, (x, n) -> x.soak(n, 1));
        Bounds.numbers(NEW, 0, (x, n) -> x.batch(n, 'n'));
        Bounds.numbers(NEW, 0, (x, n) -> x.draw(n));
        Bounds.numbers(NEW, 0, (x, n) -> x.season(n, 1));
        Bounds.numbers(NEW, 0, (x, n) -> x.groove(n, 10));
        Bounds.numbers(NEW, 0, (x, n) -> x.slat(n, 'n'));
        Bounds.numbers(NEW, 0, (x, n) -> x.lay(n, n, '6', 1, 0));
        Bounds.numbers(NEW, 0, (x, n) -> x.coat(n, 0));
        Bounds.numbers(NEW, 0, (x, n) -> x.stamp(n));
        Bounds.numbers(NEW, 0, (x, n) -> x.erase(n, 0));
        Bounds.numbers(NEW, 0, (x, n) -> x.run(n, 'n'));
        Bounds.numbers(NEW, 0, (x, n) -> x.fall(n, 1));
        Bounds.numbers(NEW, 0, (x, n) -> x.sample(n, 1));
        Bounds.numbers(NEW, 0, (x, n) -> x.pack(n, n, 1));
        Bounds.numbers(NEW, 0, (x, n) -> x.ship(n, n));
        Bounds.numbers(NEW, 0, (x, n) -> x.isLate(n));
        Bounds.numbers(NEW, 0, (x, n) -> x.claim(n));
        Bounds.numbers(NEW, 0, (x, n) -> x.parts(n));
        Bounds.numbers(NEW, 0, (x, n) -> x.trace(n, 0, 'r'));
    }

    private static void aNewWorksHasAShaftThatRuns() {
        Bounds.answers(true, NEW, x -> x.shaft(true));
        for (char machine : MACHINES) {
            Bounds.answers(true, NEW, x -> x.runs(machine));
            Bounds.answers(true, NEW, x -> x.on(machine, true));
            Bounds.answers('-', NEW, x -> x.belt(machine, '-'));
        }
    }

    private static void aNewWorksIsAtTheHour0() {
        Bounds.answers(1, NEW, x -> x.go(1));
        Bounds.answers(0, NEW, x -> x.order(0, 1, 0));
        Bounds.argument(NEW, x -> x.order(0, 1, -1));
    }

    private static void hoursAre1To500() {
        Bounds.range(NEW, 1, 500, (x, n) -> x.go(n));
        Bounds.answers(500, NEW, x -> x.go(500));
        Bounds.range(NEW.then(x -> x.go(7)), 1, 500, (x, n) -> x.go(n));
        Bounds.answers(8, NEW.then(x -> x.go(7)), x -> x.go(1));
    }

    private static void theClockEndsAt9999() {
        Story at9499 = NEW.times(18, x -> x.go(500)).then(x -> x.go(499));
        Bounds.answers(9999, at9499, x -> x.go(500));
        Story at9500 = NEW.times(19, x -> x.go(500));
        Bounds.state(at9500, x -> x.go(500));
        Bounds.answers(9999, at9500, x -> x.go(499));
        Story at9998 = at9500.then(x -> x.go(498));
        Bounds.state(at9998, x -> x.go(2));
        Bounds.answers(9999, at9998, x -> x.go(1));
        Story at9999 = at9998.then(x -> x.go(1));
        Bounds.state(at9999, x -> x.go(1));
        Bounds.state(at9999, x -> x.go(500));
        Bounds.answers(0, at9999, x -> x.order(0, 1, 9999));
    }

    private static void hoursOutOfRangeComeAheadOfTheClocksEnd() {
        Story last = NEW.times(19, x -> x.go(500)).then(x -> x.go(499));
        Bounds.argument(last, x -> x.go(501));
        Bounds.argument(last, x -> x.go(Integer.MAX_VALUE));
        Bounds.argument(last, x -> x.go(0));
    }

    private static void shaftAnswersWhetherItRan() {
        Story stopped = NEW.then(x -> x.shaft(false));
        Bounds.answers(true, NEW, x -> x.shaft(false));
        Bounds.answers(false, stopped, x -> x.shaft(false));
        Bounds.answers(false, stopped, x -> x.shaft(true));
        Bounds.answers(true, stopped.then(x -> x.shaft(true)), x -> x.shaft(true));
        for (char machine : MACHINES) {
            Bounds.answers(false, stopped, x -> x.runs(machine));
            Bounds.answers(true, stopped, x -> x.on(machine, true));
            Bounds.answers(true, stopped.then(x -> x.shaft(true)), x -> x.runs(machine));
        }
    }

    private static void aMachineIsOneOfFour() {
        Bounds.signs(NEW, "mpgc", (x, sign) -> x.runs(sign));
        Bounds.signs(NEW, "mpgc", (x, sign) -> x.on(sign, false));
        Bounds.signs(NEW, "mpgc", (x, sign) -> x.on(sign, true));
        Bounds.signs(NEW, "mpgc", (x, sign) -> x.belt(sign, '-'));
        Bounds.signs(NEW, "-pgc", (x, sign) -> x.belt('m', sign));
        Bounds.signs(NEW, "-mpg", (x, sign) -> x.belt('c', sign));
        Bounds.argument(NEW, x -> x.belt('-', 'm'));
        Bounds.argument(NEW, x -> x.belt('x', 'y'));
    }

    /** Also where it would be a ring of one: the argument is listed first. */
    private static void aMachineIsNotDrivenByItself() {
        Story chain = NEW.then(x -> x.belt('m', 'p'), x -> x.belt('p', 'g'), x -> x.belt('g', 'c'));
        for (char machine : MACHINES) {
            Bounds.argument(NEW, x -> x.belt(machine, machine));
            Bounds.argument(chain, x -> x.belt(machine, machine));
        }
        Bounds.argument(NEW, x -> x.belt('-', '-'));
        Bounds.argument(NEW, x -> x.belt('x', 'x'));
    }

    private static void noRingOfTwo() {
        for (char one : MACHINES) {
            for (char other : MACHINES) {
                if (one != other) {
                    Story belted = NEW.then(x -> x.belt(one, other));
                    Bounds.unsupported(belted, x -> x.belt(other, one));
                    Bounds.answers(other, belted, x -> x.belt(one, other));
                    Bounds.answers('-', belted.then(x -> x.belt(one, '-')), x -> x.belt(other, one));
                }
            }
        }
    }

    private static void noRingOfThree() {
        Story three = NEW.then(x -> x.belt('c', 'm'), x -> x.belt('m', 'g'));
        Bounds.unsupported(three, x -> x.belt('g', 'c'));
        Bounds.unsupported(three, x -> x.belt('g', 'm'));
        Bounds.unsupported(three, x -> x.belt('m', 'c'));
        Bounds.answers('-', three, x -> x.belt('g', 'p'));
        Bounds.answers('m', three, x -> x.belt('c', 'g'));
    }

    private static void noRingOfFour() {
        Story four = NEW.then(x -> x.belt('m', 'p'), x -> x.belt('p', 'g'), x -> x.belt('g', 'c'));
        Bounds.unsupported(four, x -> x.belt('c', 'm'));
        Bounds.unsupported(four, x -> x.belt('c', 'p'));
        Bounds.unsupported(four, x -> x.belt('c', 'g'));
        Bounds.unsupported(four, x -> x.belt('g', 'm'));
        Bounds.unsupported(four, x -> x.belt('p', 'm'));
        Bounds.answers('-', four, x -> x.belt('c', '-'));
        Bounds.answers('p', four, x -> x.belt('m', '-'));
        Bounds.answers('-', four.then(x -> x.belt('m', '-')), x -> x.belt('c', 'm'));
    }

    private static void aChainOfFourIsNoRing() {
        Story four = NEW.then(x -> x.belt('m', 'p'), x -> x.belt('p', 'g'));
        Bounds.answers('-', four, x -> x.belt('g', 'c'));
        Story all = four.then(x -> x.belt('g', 'c'));
        for (char machine : MACHINES) {
            Bounds.answers(true, all, x -> x.runs(machine));
        }
        Bounds.answers(true, all, x -> x.isSound());
        Bounds.answers('g', all, x -> x.belt('p', 'c'));
    }

    private static void aMachineRunsIfAllThatDrivesItRuns() {
        Story chain = NEW.then(x -> x.belt('m', 'p'), x -> x.belt('p', 'g'), x -> x.belt('g', 'c'));
        String driven = "mpgc";
        for (int off = 0; off < 4; off++) {
            char stopped = driven.charAt(off);
            Story less = chain.then(x -> x.on(stopped, false));
            Bounds.answers(false, less, x -> x.on(stopped, false));
            for (int at = 0; at < 4; at++) {
                char machine = driven.charAt(at);
                Bounds.answers(at > off, less, x -> x.runs(machine));
                Bounds.answers(true, less.then(x -> x.on(stopped, true)), x -> x.runs(machine));
            }
        }
    }
}
