/** The boundary cases of promises 11 to 17, each sentence by itself; those of the wheel stand in WheelBoundsTest. */
public final class LeadsBoundsTest {
    /** 100 kilos of fineness 9: a die is worn by 1 for each 5 kilos. */
    private static final Story FINE = Bench.mixed();
    /** 400 kilos of fineness 5: a die is worn by 1 for each kilo. */
    private static final Story MIDDLE = new Story().then(
        x -> x.lot('g', 90, 6, 500), x -> x.lot('c', 80, 2, 500), x -> x.mix(0, 1, 200, 200, 2));
    /** 1000 kilos of fineness 0: a die is worn by 2 for each kilo. */
    private static final Story COARSE = new Story().then(
        x -> x.lot('g', 90, 9, 500), x -> x.lot('c', 80, 9, 500), x -> x.mix(0, 1, 500, 500, 1));
    private static final Story NO_PRESS = FINE.then(x -> x.on('p', false));
    private static final Story SIXTEEN = FINE.times(16, x -> x.press(0, 0, 1));
    /** Batch 0 of 200 leads. */
    private static final Story PRESSED = FINE.then(x -> x.press(0, 0, 10));
    /** Batches 0 and 1 of 200 leads, ready at the hour 18. */
    private static final Story DRIED = PRESSED.then(x -> x.press(0, 0, 10), x -> x.dry(0, 1), x -> x.dry(1, 1));
    private static final Story DRY = DRIED.then(x -> x.go(18));

    public static void main(String[] args) {
        aBatchIsOfAMixture();
        diesAre0To3();
        kilosAreFrom1();
        theMixtureHasNotAsMuch();
        aDieOf200IsWornOut();
        thePressDoesNotRun();
        atMost16Batches();
        pressAsksInTheListedOrder();
        twentyLeadsAKilo();
        aFortiethOfTheWearIsCut();
        theWearIsCut();
        wornAndRenewAskForADie();
        dryAsksForABatchAndASpeed();
        dryingHoursAreRoundedUp();
        aBatchIsDriedOnce();
        warpedLeadsAreCut();
        fireAsksForABatchAKilnAHeatAndHours();
        aBatchIsFiredOnceItIsDried();
        aBatchIsFiredOnceItIsReady();
        aBatchIsFiredOnce();
        aKilnIsNotReadyInItsHours();
        firingsAreNumberedFrom0();
        fireAsksInTheListedOrder();
        strengthIsCut();
        darknessIs0To999();
        soakAsksForABatchAndAWax();
        aBatchIsSoakedOnceItIsFired();
        aBatchIsSoakedOnceItIsReady();
        aBatchIsSoakedOnce();
        waxDarkensTo999();
        soakAsksInTheListedOrder();
        somethingOfABatch();
        Due.end();
    }

    private static void aBatchIsOfAMixture() {
        Bounds.numbers(new Story(), 0, (x, n) -> x.press(n, 0, 1));
        Bounds.numbers(FINE, 1, (x, n) -> x.press(n, 0, 1));
        Story twelve = FINE.times(11, x -> x.mix(0, 1, 1, 1, 1));
        Bounds.numbers(twelve, 12, (x, n) -> x.press(n, 0, 1));
    }

    private static void diesAre0To3() {
        Bounds.range(FINE, 0, 3, (x, n) -> x.press(0, n, 1));
        for (int die = 0; die < 4; die++) {
            int it = die;
            Story worn = FINE.then(x -> x.press(0, it, 5));
            for (int other = 0; other < 4; other++) {
                int at = other;
                Bounds.answers(at == it ? 1 : 0, worn, x -> x.worn(at));
            }
        }
    }

    private static void kilosAreFrom1() {
        for (int wrong : new int[] {0, -1, Integer.MIN_VALUE}) {
            Bounds.argument(FINE, x -> x.press(0, 0, wrong));
        }
        Bounds.answers(0, FINE, x -> x.press(0, 0, 1));
        Bounds.answers(99, FINE.then(x -> x.press(0, 0, 1)), x -> x.mixture(0, 'k'));
    }

    private static void theMixtureHasNotAsMuch() {
        Bounds.answers(0, FINE, x -> x.press(0, 0, 100));
        Bounds.unsupported(FINE, x -> x.press(0, 0, 101));
        Bounds.unsupported(FINE, x -> x.press(0, 0, Integer.MAX_VALUE));
        Bounds.unsupported(FINE.then(x -> x.press(0, 0, 100)), x -> x.press(0, 0, 1));
        Story oneLeft = FINE.then(x -> x.press(0, 0, 99));
        Bounds.answers(1, oneLeft, x -> x.press(0, 0, 1));
        Bounds.unsupported(oneLeft, x -> x.press(0, 0, 2));
    }

    private static void aDieOf200IsWornOut() {
        Story at199 = MIDDLE.then(x -> x.press(0, 1, 199));
        Bounds.answers(199, at199, x -> x.worn(1));
        Bounds.answers(1, at199, x -> x.press(0, 1, 1));
        Bounds.answers(399, at199.then(x -> x.press(0, 1, 200)), x -> x.worn(1));
        Story at200 = at199.then(x -> x.press(0, 1, 1));
        Bounds.answers(200, at200, x -> x.worn(1));
        Bounds.unsupported(at200, x -> x.press(0, 1, 1));
        Bounds.answers(2, at200, x -> x.press(0, 0, 1));
        Bounds.answers(200, at200, x -> x.renew(1));
        Bounds.answers(2, at200.then(x -> x.renew(1)), x -> x.press(0, 1, 1));
        Bounds.unsupported(COARSE.then(x -> x.press(0, 3, 101)), x -> x.press(0, 3, 1));
        Bounds.answers(2000, COARSE.then(x -> x.press(0, 3, 1000)), x -> x.worn(3));
    }

    private static void thePressDoesNotRun() {
        Bounds.unsupported(NO_PRESS, x -> x.press(0, 0, 1));
        Bounds.unsupported(NO_PRESS, x -> x.press(0, 0, 100));
        Bounds.unsupported(FINE.then(x -> x.shaft(false)), x -> x.press(0, 0, 1));
        Story driven = FINE.then(x -> x.belt('p', 'm'), x -> x.belt('m', 'c'), x -> x.belt('c', 'g'));
        Bounds.answers(0, driven, x -> x.press(0, 0, 1));
        Bounds.unsupported(driven.then(x -> x.on('g', false)), x -> x.press(0, 0, 1));
        Story others = FINE.then(x -> x.on('m', false), x -> x.on('g', false), x -> x.on('c', false));
        Bounds.answers(0, others, x -> x.press(0, 0, 1));
    }

    private static void atMost16Batches() {
        Bounds.answers(15, FINE.times(15, x -> x.press(0, 0, 1)), x -> x.press(0, 0, 1));
        Bounds.state(SIXTEEN, x -> x.press(0, 0, 1));
        Bounds.state(SIXTEEN, x -> x.press(0, 3, 84));
        Bounds.answers(84, SIXTEEN, x -> x.mixture(0, 'k'));
        Bounds.answers(20, SIXTEEN, x -> x.batch(15, 'n'));
    }

    private static void pressAsksInTheListedOrder() {
        Bounds.index(FINE, x -> x.press(1, 4, 1));
        Bounds.index(FINE, x -> x.press(1, 0, 0));
        Bounds.index(FINE, x -> x.press(1, 0, 101));
        Bounds.index(NO_PRESS, x -> x.press(-1, 0, 1));
        Bounds.index(SIXTEEN, x -> x.press(1, 0, 1));
        Bounds.argument(FINE, x -> x.press(0, 4, 101));
        Bounds.argument(FINE, x -> x.press(0, -1, 101));
        Story worn = MIDDLE.then(x -> x.press(0, 0, 200));
        Bounds.index(worn, x -> x.press(1, 0, 1));
        Bounds.argument(worn, x -> x.press(0, 0, 0));
        Bounds.argument(NO_PRESS, x -> x.press(0, 4, 1));
        Bounds.argument(NO_PRESS, x -> x.press(0, 0, 0));
        Bounds.argument(SIXTEEN, x -> x.press(0, 4, 1));
        Bounds.argument(SIXTEEN, x -> x.press(0, 0, 0));
        Bounds.unsupported(SIXTEEN, x -> x.press(0, 0, 85));
        Bounds.unsupported(SIXTEEN.then(x -> x.on('p', false)), x -> x.press(0, 0, 1));
        Story wornAndFull = MIDDLE.times(15, x -> x.press(0, 0, 1)).then(x -> x.press(0, 0, 185));
        Bounds.unsupported(wornAndFull, x -> x.press(0, 0, 1));
        Bounds.state(wornAndFull, x -> x.press(0, 1, 1));
    }

    private static void twentyLeadsAKilo() {
        Bounds.answers(20, FINE.then(x -> x.press(0, 0, 1)), x -> x.batch(0, 'n'));
        Bounds.answers(20000, COARSE.then(x -> x.press(0, 0, 1000)), x -> x.batch(0, 'n'));
    }

    private static void aFortiethOfTheWearIsCut() {
        int[] wears = {0, 1, 39, 40, 79, 80, 119, 120, 159, 160, 199};
        int[] bores = {20, 20, 20, 21, 21, 22, 22, 23, 23, 24, 24};
        for (int i = 0; i < wears.length; i++) {
            int wear = wears[i];
            Story worn = wear == 0 ? MIDDLE : MIDDLE.then(x -> x.press(0, 2, wear));
            int batch = wear == 0 ? 0 : 1;
            Bounds.answers(bores[i], worn.then(x -> x.press(0, 2, 1)), x -> x.batch(batch, 'b'));
            Bounds.answers(bores[i], worn.then(x -> x.press(0, 2, 200)), x -> x.batch(batch, 'b'));
        }
    }

    private static void theWearIsCut() {
        int[] kilos = {1, 4, 5, 9, 10, 99, 100};
        int[] wears = {0, 0, 1, 1, 2, 19, 20};
        for (int i = 0; i < kilos.length; i++) {
            int pressed = kilos[i];
            Bounds.answers(wears[i], FINE.then(x -> x.press(0, 0, pressed)), x -> x.worn(0));
        }
        Bounds.answers(0, FINE.times(16, x -> x.press(0, 0, 4)), x -> x.worn(0));
    }

    private static void wornAndRenewAskForADie() {
        Bounds.range(FINE, 0, 3, (x, n) -> x.worn(n));
        Bounds.range(FINE, 0, 3, (x, n) -> x.renew(n));
        Story worn = MIDDLE.then(x -> x.press(0, 3, 7));
        Bounds.answers(7, worn, x -> x.renew(3));
        Bounds.answers(0, worn.then(x -> x.renew(3)), x -> x.renew(3));
        Bounds.answers(0, worn.then(x -> x.renew(3)), x -> x.worn(3));
        Bounds.answers(7, worn.then(x -> x.renew(2)), x -> x.worn(3));
        Bounds.range(worn, 0, 3, (x, n) -> x.renew(n));
    }

    private static void dryAsksForABatchAndASpeed() {
        Bounds.numbers(FINE, 0, (x, n) -> x.dry(n, 1));
        Bounds.numbers(PRESSED, 1, (x, n) -> x.dry(n, 1));
        Bounds.numbers(SIXTEEN, 16, (x, n) -> x.dry(n, 5));
        Bounds.range(PRESSED, 1, 5, (x, n) -> x.dry(0, n));
        Bounds.index(PRESSED, x -> x.dry(1, 0));
        Bounds.index(PRESSED, x -> x.dry(-1, 6));
    }

    private static void dryingHoursAreRoundedUp() {
        int[] hours = {18, 9, 6, 5, 4};
        Story last = PRESSED.times(19, x -> x.go(500)).then(x -> x.go(499));
        for (int speed = 1; speed <= 5; speed++) {
            int at = speed;
            Bounds.answers(hours[speed - 1], PRESSED, x -> x.dry(0, at));
            Bounds.answers(7 + hours[speed - 1], PRESSED.then(x -> x.go(7)), x -> x.dry(0, at));
            Bounds.answers(9999 + hours[speed - 1], last, x -> x.dry(0, at));
            Bounds.answers(hours[speed - 1], PRESSED.then(x -> x.dry(0, at)), x -> x.batch(0, 'r'));
        }
    }

    private static void aBatchIsDriedOnce() {
        Story dried = PRESSED.then(x -> x.dry(0, 5));
        Bounds.unsupported(dried, x -> x.dry(0, 1));
        Bounds.unsupported(dried, x -> x.dry(0, 5));
        Bounds.unsupported(dried.then(x -> x.go(4)), x -> x.dry(0, 5));
        Bounds.unsupported(Bench.fired(), x -> x.dry(0, 5));
        Bounds.unsupported(COARSE.then(x -> x.press(0, 0, 50), x -> x.dry(0, 2)), x -> x.dry(0, 5));
        Bounds.argument(dried, x -> x.dry(0, 0));
        Bounds.argument(dried, x -> x.dry(0, 6));
        Bounds.argument(COARSE.then(x -> x.press(0, 0, 50)), x -> x.dry(0, 6));
        Bounds.argument(COARSE.then(x -> x.press(0, 0, 50)), x -> x.dry(0, 0));
    }

    private static void warpedLeadsAreCut() {
        warps(FINE, 24, 2, 0);
        warps(FINE, 25, 2, 1);
        warps(FINE, 49, 2, 1);
        warps(FINE, 50, 2, 2);
        warps(FINE, 100, 1, 0);
        warps(FINE, 6, 5, 0);
        warps(FINE, 7, 5, 1);
        warps(FINE, 1, 5, 0);
        warps(COARSE, 1000, 1, 0);
        warps(COARSE, 1000, 5, 1600);
        warps(COARSE, 1, 5, 1);
        warps(COARSE, 2, 2, 0);
        warps(COARSE, 3, 2, 1);
    }

    private static void warps(Story mixed, int kilos, int speed, int warped) {
        Story pressed = mixed.then(x -> x.press(0, 0, kilos));
        Bounds.answers(0, pressed, x -> x.batch(0, 'w'));
        Story dried = pressed.then(x -> x.dry(0, speed));
        Bounds.answers(warped, dried, x -> x.batch(0, 'w'));
        Bounds.answers(20 * kilos - warped, dried, x -> x.batch(0, 'n'));
    }

    private static void fireAsksForABatchAKilnAHeatAndHours() {
        Bounds.numbers(FINE, 0, (x, n) -> x.fire(n, 0, 700, 1));
        Bounds.numbers(DRY, 2, (x, n) -> x.fire(n, 0, 700, 1));
        Bounds.range(DRY, 0, 1, (x, n) -> x.fire(0, n, 700, 1));
        Bounds.range(DRY, 700, 1200, (x, n) -> x.fire(0, 0, n, 1));
        Bounds.range(DRY, 1, 12, (x, n) -> x.fire(0, 0, 700, n));
        Bounds.answers(19, DRY.then(x -> x.fire(0, 0, 700, 1)), x -> x.batch(0, 'r'));
        Bounds.answers(30, DRY.then(x -> x.fire(0, 0, 1200, 12)), x -> x.batch(0, 'r'));
    }

    private static void aBatchIsFiredOnceItIsDried() {
        Bounds.unsupported(PRESSED, x -> x.fire(0, 0, 700, 1));
        Bounds.unsupported(PRESSED.then(x -> x.go(500)), x -> x.fire(0, 0, 700, 1));
    }

    private static void aBatchIsFiredOnceItIsReady() {
        Bounds.unsupported(DRIED, x -> x.fire(0, 0, 700, 1));
        Bounds.unsupported(DRIED.then(x -> x.go(17)), x -> x.fire(0, 0, 700, 1));
        Bounds.unsupported(DRIED.then(x -> x.go(17)), x -> x.fire(0, 0, 700, 12));
        Bounds.answers(0, DRIED.then(x -> x.go(18)), x -> x.fire(0, 0, 700, 1));
        Story fast = PRESSED.then(x -> x.dry(0, 5));
        Bounds.unsupported(fast.then(x -> x.go(3)), x -> x.fire(0, 0, 700, 1));
        Bounds.answers(0, fast.then(x -> x.go(4)), x -> x.fire(0, 0, 700, 1));
    }

    private static void aBatchIsFiredOnce() {
        Story fired = DRY.then(x -> x.fire(0, 0, 900, 2));
        Bounds.unsupported(fired, x -> x.fire(0, 1, 900, 2));
        Bounds.unsupported(fired.then(x -> x.go(1)), x -> x.fire(0, 1, 900, 2));
        Bounds.unsupported(fired.then(x -> x.go(2)), x -> x.fire(0, 0, 1000, 2));
        Bounds.unsupported(fired.then(x -> x.go(500)), x -> x.fire(0, 1, 1000, 2));
    }

    private static void aKilnIsNotReadyInItsHours() {
        for (int kiln = 0; kiln < 2; kiln++) {
            int it = kiln;
            Story most = DRY.then(x -> x.fire(0, it, 700, 12));
            Bounds.unsupported(most, x -> x.fire(1, it, 700, 1));
            Bounds.unsupported(most.then(x -> x.go(11)), x -> x.fire(1, it, 700, 1));
            Bounds.answers(1, most.then(x -> x.go(12)), x -> x.fire(1, it, 700, 1));
            Bounds.answers(1, most, x -> x.fire(1, 1 - it, 700, 1));
            Story least = DRY.then(x -> x.fire(0, it, 700, 1));
            Bounds.unsupported(least, x -> x.fire(1, it, 700, 1));
            Bounds.answers(1, least.then(x -> x.go(1)), x -> x.fire(1, it, 700, 1));
        }
    }

    private static void firingsAreNumberedFrom0() {
        Bounds.answers(0, DRY, x -> x.fire(1, 0, 700, 1));
        Bounds.answers(1, DRY.then(x -> x.fire(1, 0, 700, 1)), x -> x.fire(0, 1, 700, 1));
        Story both = DRY.then(x -> x.fire(1, 0, 700, 1), x -> x.fire(0, 1, 700, 1));
        Bounds.answers(1, both, x -> x.batch(0, 'f'));
        Bounds.answers(0, both, x -> x.batch(1, 'f'));
        Story all = SIXTEEN;
        for (int batch = 0; batch < 16; batch++) {
            int it = batch;
            all = all.then(x -> x.dry(it, 5));
        }
        all = all.then(x -> x.go(4));
        for (int batch = 0; batch < 15; batch++) {
            int it = batch;
            all = all.then(x -> x.fire(it, 1, 700, 1), x -> x.go(1));
        }
        Bounds.answers(15, all, x -> x.fire(15, 1, 700, 1));
    }

    private static void fireAsksInTheListedOrder() {
        Bounds.index(DRY, x -> x.fire(2, 2, 700, 1));
        Bounds.index(DRY, x -> x.fire(-1, 0, 699, 1));
        Bounds.index(DRY, x -> x.fire(2, 0, 700, 13));
        Bounds.index(DRY.then(x -> x.fire(0, 0, 700, 12)), x -> x.fire(2, 0, 700, 1));
        Bounds.argument(PRESSED, x -> x.fire(0, 2, 700, 1));
        Bounds.argument(PRESSED, x -> x.fire(0, 0, 1201, 1));
        Bounds.argument(DRIED, x -> x.fire(0, 0, 699, 1));
        Bounds.argument(DRIED, x -> x.fire(0, -1, 700, 1));
        Story fired = DRY.then(x -> x.fire(0, 0, 700, 12));
        Bounds.argument(fired, x -> x.fire(0, 1, 700, 13));
        Bounds.argument(fired, x -> x.fire(0, 2, 700, 1));
        Bounds.argument(fired, x -> x.fire(1, 0, 700, 0));
        Bounds.argument(fired, x -> x.fire(1, 0, 1201, 1));
    }

    private static void strengthIsCut() {
        fires(90, 3, 4, 60, 40, 5, 900, 6, 348, 565);
        fires(70, 7, 5, 3, 4, 2, 719, 4, 163, 314);
        fires(70, 7, 5, 3, 4, 2, 720, 4, 164, 313);
        fires(50, 1, 1, 1, 500, 9, 1200, 12, 840, 0);
        fires(99, 9, 9, 500, 1, 1, 700, 1, 6, 988);
        fires(99, 9, 9, 500, 1, 1, 1200, 1, 12, 938);
        fires(50, 9, 9, 1, 500, 1, 700, 1, 105, 0);
    }

    private static void darknessIs0To999() {
        fires(99, 1, 1, 26, 1, 9, 700, 1, 4 + 185, 998);
        fires(99, 1, 1, 27, 1, 9, 700, 1, 4 + 185, 999);
        fires(99, 1, 1, 55, 2, 9, 700, 1, 4 + 185, 999);
        fires(99, 1, 1, 500, 1, 9, 700, 1, 1 + 185, 999);
        fires(50, 1, 1, 1, 82, 9, 1200, 1, 596 + 185, 1);
        fires(50, 1, 1, 1, 99, 9, 1200, 1, 597 + 185, 0);
        fires(50, 1, 1, 1, 100, 9, 1200, 1, 597 + 185, 0);
        fires(50, 1, 1, 1, 500, 9, 1200, 1, 600 + 185, 0);
        fires(50, 9, 9, 1, 50, 1, 709, 1, 108 + 5, 9);
        fires(50, 9, 9, 1, 50, 1, 710, 1, 109 + 5, 8);
        fires(50, 9, 9, 1, 50, 1, 799, 1, 197 + 5, 0);
        fires(50, 9, 9, 1, 50, 1, 800, 1, 198 + 5, 0);
    }

    private static void fires(int purity, int size, int claySize, int kilos, int more, int days,
            int heat, int hours, int strength, int darkness) {
        Story dry = new Story().then(
            x -> x.lot('g', purity, size, 500),
            x -> x.lot('c', 55, claySize, 500),
            x -> x.mix(0, 1, kilos, more, days),
            x -> x.press(0, 0, 1),
            x -> x.dry(0, 1),
            x -> x.go(18));
        Bounds.answers(0, dry, x -> x.batch(0, 's'));
        Bounds.answers(0, dry, x -> x.batch(0, 'd'));
        Story fired = dry.then(x -> x.fire(0, 1, heat, hours));
        Bounds.answers(strength, fired, x -> x.batch(0, 's'));
        Bounds.answers(darkness, fired, x -> x.batch(0, 'd'));
        Bounds.answers((double) darkness, fired, x -> x.meanDarkness());
    }

    private static void soakAsksForABatchAndAWax() {
        Bounds.numbers(FINE, 0, (x, n) -> x.soak(n, 1));
        Bounds.numbers(Bench.fired(), 1, (x, n) -> x.soak(n, 1));
        Bounds.range(Bench.fired(), 1, 5, (x, n) -> x.soak(0, n));
        for (int wax = 1; wax <= 5; wax++) {
            int it = wax;
            Bounds.answers(195 + 10 * wax, Bench.fired(), x -> x.soak(0, it));
            Story soaked = Bench.fired().then(x -> x.soak(0, it));
            Bounds.answers(195 + 10 * wax, soaked, x -> x.batch(0, 's'));
            Bounds.answers(936 + 8 * wax, soaked, x -> x.batch(0, 'd'));
        }
    }

    private static void aBatchIsSoakedOnceItIsFired() {
        Bounds.unsupported(PRESSED, x -> x.soak(0, 1));
        Bounds.unsupported(DRIED, x -> x.soak(0, 1));
        Bounds.unsupported(DRY, x -> x.soak(0, 1));
    }

    private static void aBatchIsSoakedOnceItIsReady() {
        Story fired = DRY.then(x -> x.fire(0, 0, 700, 12));
        Bounds.unsupported(fired, x -> x.soak(0, 1));
        Bounds.unsupported(fired.then(x -> x.go(11)), x -> x.soak(0, 1));
        Bounds.answers(260, fired.then(x -> x.go(12)), x -> x.soak(0, 1));
    }

    private static void aBatchIsSoakedOnce() {
        Story soaked = Bench.fired().then(x -> x.soak(0, 1));
        Bounds.unsupported(soaked, x -> x.soak(0, 1));
        Bounds.unsupported(soaked, x -> x.soak(0, 5));
        Bounds.unsupported(soaked.then(x -> x.go(500)), x -> x.soak(0, 5));
    }

    /** Graphite and clay of 43 to 2 make a darkness of 991, of 45 to 2 one of 992, of 27 to 1 one of 999. */
    private static void waxDarkensTo999() {
        soaks(43, 2, 1, 999);
        soaks(43, 2, 2, 999);
        soaks(45, 2, 1, 999);
        soaks(27, 1, 5, 999);
        soaks(95, 5, 1, 993);
        soaks(95, 5, 2, 999);
        Story none = new Story().then(
            x -> x.lot('g', 50, 9, 500), x -> x.lot('c', 50, 9, 500), x -> x.mix(0, 1, 1, 500, 1),
            x -> x.press(0, 0, 1), x -> x.dry(0, 5), x -> x.go(4), x -> x.fire(0, 0, 1200, 1), x -> x.go(1));
        Bounds.answers(0, none, x -> x.batch(0, 'd'));
        Bounds.answers(8, none.then(x -> x.soak(0, 1)), x -> x.batch(0, 'd'));
    }

    private static void soaks(int kilos, int more, int wax, int darkness) {
        Story story = new Story().then(
            x -> x.lot('g', 99, 1, 500), x -> x.lot('c', 99, 1, 500), x -> x.mix(0, 1, kilos, more, 9),
            x -> x.press(0, 0, 1), x -> x.dry(0, 5), x -> x.go(4), x -> x.fire(0, 0, 700, 1), x -> x.go(1));
        Bounds.answers(darkness, story.then(x -> x.soak(0, wax)), x -> x.batch(0, 'd'));
    }

    private static void soakAsksInTheListedOrder() {
        Bounds.index(Bench.fired(), x -> x.soak(1, 0));
        Bounds.index(Bench.fired(), x -> x.soak(-1, 6));
        Bounds.argument(DRY, x -> x.soak(0, 0));
        Bounds.argument(DRY, x -> x.soak(0, 6));
        Bounds.argument(DRY.then(x -> x.fire(0, 0, 700, 1)), x -> x.soak(0, 6));
        Bounds.argument(Bench.fired().then(x -> x.soak(0, 5)), x -> x.soak(0, 0));
        Bounds.argument(Bench.fired().then(x -> x.soak(0, 5)), x -> x.soak(0, 6));
    }

    private static void somethingOfABatch() {
        Bounds.numbers(FINE, 0, (x, n) -> x.batch(n, 'n'));
        Bounds.numbers(PRESSED, 1, (x, n) -> x.batch(n, 'n'));
        Bounds.numbers(SIXTEEN, 16, (x, n) -> x.batch(n, 'f'));
        Bounds.signs(PRESSED, "nwbrsdf", (x, sign) -> x.batch(0, sign));
        Bounds.signs(Bench.fired(), "nwbrsdf", (x, sign) -> x.batch(0, sign));
        Bounds.index(PRESSED, x -> x.batch(1, 'x'));
        Bounds.index(PRESSED, x -> x.batch(-1, 'x'));
        Story late = FINE.then(x -> x.go(7), x -> x.press(0, 0, 10), x -> x.go(7));
        Bounds.answers(0, late, x -> x.batch(0, 'r'));
        Bounds.answers(0, late, x -> x.batch(0, 's'));
        Bounds.answers(0, late, x -> x.batch(0, 'd'));
        Bounds.answers(-1, late, x -> x.batch(0, 'f'));
        Bounds.answers(-1, DRY, x -> x.batch(0, 'f'));
        Bounds.answers(0, DRY.then(x -> x.fire(0, 0, 700, 1)), x -> x.batch(0, 'f'));
    }
}
