import java.util.ArrayList;

/** A pencil works, from the lots of graphite and clay to the claims. The document's promises say what each call does. */
public final class Graphline {
    private static final int LAST_HOUR = 9999;
    private static final int MOST_LOTS = 16;
    private static final int MOST_MIXTURES = 12;
    private static final int MOST_BATCHES = 16;
    private static final int MOST_SLAT_LOTS = 12;
    private static final int MOST_RUNS = 16;
    private static final int MOST_GROSSES = 30;
    private static final int MOST_ORDERS = 12;

    private static final int WORN_OUT = 200;
    private static final int LEADS_A_KILO = 20;
    private static final int LEAST_BORE = 20;
    private static final int DRYING_HOURS = 18;
    private static final int MOST_DARKNESS = 999;
    private static final int DARKNESS_A_GRADE = 50;
    private static final int BEST_GRADE = 19;
    private static final int MOST_WETNESS_TO_GROOVE = 10;
    private static final int MOST_APART = 2;
    private static final int GLUE_HOURS = 6;
    private static final int COAT_HOURS = 8;
    private static final int MOST_COATS = 8;
    private static final int COATS_TO_STAMP = 3;
    private static final int FULL_GROSS = 144;
    private static final int MULTIPLIER = 48271;
    private static final int MODULUS = 2147483647;

    private final Drive drive = new Drive();
    private final Wheel wheel = new Wheel();
    private final ArrayList<Lot> lots = new ArrayList<Lot>();
    private final ArrayList<Mixture> mixtures = new ArrayList<Mixture>();
    private final ArrayList<Batch> batches = new ArrayList<Batch>();
    private final ArrayList<SlatLot> slatLots = new ArrayList<SlatLot>();
    private final ArrayList<Run> runs = new ArrayList<Run>();
    private final ArrayList<Gross> grosses = new ArrayList<Gross>();
    private final ArrayList<Order> orders = new ArrayList<Order>();
    private final int[] dieWear = new int[4];
    private final int[] kilnReady = new int[2];
    private int clock = 0;
    private int firings = 0;
    private int z = 1;
    private int laid = 0;
    private int sampled = 0;

    public Graphline() {
    }

    // ---- time and the shaft

    public int go(int hours) throws IllegalArgumentException, IllegalStateException {
        if (isOutside(hours, 1, 500)) {
            throw new IllegalArgumentException("hours are 1 to 500");
        }
        if (clock + hours > LAST_HOUR) {
            throw new IllegalStateException("the clock ends at 9999");
        }
        clock += hours;
        return clock;
    }

    public boolean shaft(boolean is) {
        boolean was = drive.shaftTurns;
        drive.shaftTurns = is;
        return was;
    }

    public char belt(char machine, char by) throws IllegalArgumentException, UnsupportedOperationException {
        Machine driven = machineNamed(machine);
        Machine driver = by == Drive.SHAFT ? null : machineNamed(by);
        if (driven == driver) {
            throw new IllegalArgumentException("a machine does not drive itself");
        }
        if (drive.hangsOn(driver, driven)) {
            throw new UnsupportedOperationException("that would be a ring");
        }
        char was = driven.driver == null ? Drive.SHAFT : driven.driver.name;
        driven.driver = driver;
        return was;
    }

    public boolean on(char machine, boolean is) throws IllegalArgumentException {
        Machine it = machineNamed(machine);
        boolean was = it.isOn;
        it.isOn = is;
        return was;
    }

    public boolean runs(char machine) throws IllegalArgumentException {
        return drive.moves(machineNamed(machine));
    }

    // ---- lots and mixtures

    public int lot(char kind, int purity, int size, int kilos) throws IllegalArgumentException, IllegalStateException {
        if (kind != 'g' && kind != 'c') {
            throw new IllegalArgumentException("a lot is graphite 'g' or clay 'c'");
        }
        if (isOutside(purity, 50, 99) || isOutside(size, 1, 9) || isOutside(kilos, 1, 500)) {
            throw new IllegalArgumentException("purity, size or kilos are out of range");
        }
        if (lots.size() >= MOST_LOTS) {
            throw new IllegalStateException("there are 16 lots");
        }
        lots.add(new Lot(kind, purity, size, kilos));
        return lots.size() - 1;
    }

    public int kilos(int lot) throws IndexOutOfBoundsException {
        return lotNumbered(lot).kilos;
    }

    public int mix(int graphite, int clay, int kilos, int more, int days)
            throws IndexOutOfBoundsException, IllegalArgumentException, UnsupportedOperationException, IllegalStateException {
        Lot dark = lotNumbered(graphite);
        Lot pale = lotNumbered(clay);
        if (kilos < 1 || more < 1 || isOutside(days, 1, 9)) {
            throw new IllegalArgumentException("kilos or days are out of range");
        }
        if (dark.kind != 'g' || pale.kind != 'c') {
            throw new UnsupportedOperationException("a lot is of another kind");
        }
        if (dark.kilos < kilos || pale.kilos < more) {
            throw new UnsupportedOperationException("a lot has not as much");
        }
        if (!drive.moves(drive.mill)) {
            throw new UnsupportedOperationException("the mill does not run");
        }
        if (mixtures.size() >= MOST_MIXTURES) {
            throw new IllegalStateException("there are 12 mixtures");
        }
        int carbon = 10 * kilos * dark.purity / (kilos + more);
        int fineness = clamped(days + 9 - dark.size - pale.size / 3, 0, 9);
        dark.kilos -= kilos;
        pale.kilos -= more;
        mixtures.add(new Mixture(graphite, clay, carbon, fineness, kilos + more));
        return mixtures.size() - 1;
    }

    public int mixture(int mixture, char what) throws IndexOutOfBoundsException, IllegalArgumentException {
        Mixture it = mixtureNumbered(mixture);
        switch (what) {
            case 'c': return it.carbon;
            case 'f': return it.fineness;
            case 'k': return it.kilos;
            default: throw new IllegalArgumentException("a mixture has no such thing");
        }
    }

    // ---- leads

    public int press(int mixture, int die, int kilos)
            throws IndexOutOfBoundsException, IllegalArgumentException, UnsupportedOperationException, IllegalStateException {
        Mixture from = mixtureNumbered(mixture);
        if (die < 0 || die >= dieWear.length || kilos < 1) {
            throw new IllegalArgumentException("the die or the kilos are out of range");
        }
        if (from.kilos < kilos) {
            throw new UnsupportedOperationException("the mixture has not as much");
        }
        if (dieWear[die] >= WORN_OUT) {
            throw new UnsupportedOperationException("the die is worn out");
        }
        if (!drive.moves(drive.press)) {
            throw new UnsupportedOperationException("the press does not run");
        }
        if (batches.size() >= MOST_BATCHES) {
            throw new IllegalStateException("there are 16 batches");
        }
        int bore = LEAST_BORE + dieWear[die] / 40;
        dieWear[die] += kilos * (10 - from.fineness) / 5;
        from.kilos -= kilos;
        batches.add(new Batch(batches.size(), from, LEADS_A_KILO * kilos, bore));
        return batches.size() - 1;
    }

    public int worn(int die) throws IllegalArgumentException {
        if (die < 0 || die >= dieWear.length) {
            throw new IllegalArgumentException("there is no such die");
        }
        return dieWear[die];
    }

    public int renew(int die) throws IllegalArgumentException {
        if (die < 0 || die >= dieWear.length) {
            throw new IllegalArgumentException("there is no such die");
        }
        int was = dieWear[die];
        dieWear[die] = 0;
        return was;
    }

    public int dry(int batch, int speed)
            throws IndexOutOfBoundsException, IllegalArgumentException, UnsupportedOperationException {
        Batch it = batchNumbered(batch);
        if (speed < 1 || speed > 5) {
            throw new IllegalArgumentException("a speed is 1 to 5");
        }
        if (it.isDried) {
            throw new UnsupportedOperationException("the batch was dried");
        }
        it.isDried = true;
        it.ready = clock + (DRYING_HOURS + speed - 1) / speed;
        it.warped = it.leads * (speed - 1) * (10 - it.mixture.fineness) / 500;
        it.leads -= it.warped;
        return it.ready;
    }

    public int fire(int batch, int kiln, int heat, int hours)
            throws IndexOutOfBoundsException, IllegalArgumentException, UnsupportedOperationException {
        Batch it = batchNumbered(batch);
        if (kiln < 0 || kiln >= kilnReady.length || isOutside(heat, 700, 1200) || isOutside(hours, 1, 12)) {
            throw new IllegalArgumentException("the kiln, the heat or the hours are out of range");
        }
        if (!it.isDried || clock < it.ready || it.isFired()) {
            throw new UnsupportedOperationException("the batch is not one to be fired now");
        }
        if (clock < kilnReady[kiln]) {
            throw new UnsupportedOperationException("the kiln is not ready");
        }
        int carbon = it.mixture.carbon;
        int fineness = it.mixture.fineness;
        it.strength = (1000 - carbon) * (heat - 600) / 1000 + 20 * fineness + 5 * hours;
        it.darkness = clamped(carbon - (heat - 700) / 10 + 5 * fineness, 0, MOST_DARKNESS);
        it.ready = clock + hours;
        it.kiln = kiln;
        it.firing = firings;
        kilnReady[kiln] = clock + hours;
        firings++;
        return it.firing;
    }

    public int soak(int batch, int wax)
            throws IndexOutOfBoundsException, IllegalArgumentException, UnsupportedOperationException {
        Batch it = batchNumbered(batch);
        if (isOutside(wax, 1, 5)) {
            throw new IllegalArgumentException("a wax is 1 to 5");
        }
        if (!it.isFired() || clock < it.ready || it.isSoaked) {
            throw new UnsupportedOperationException("the batch is not one to be soaked now");
        }
        it.isSoaked = true;
        it.strength += 10 * wax;
        it.darkness = clamped(it.darkness + 8 * wax, 0, MOST_DARKNESS);
        return it.strength;
    }

    public int batch(int batch, char what) throws IndexOutOfBoundsException, IllegalArgumentException {
        Batch it = batchNumbered(batch);
        switch (what) {
            case 'n': return it.leads;
            case 'w': return it.warped;
            case 'b': return it.bore;
            case 'r': return it.ready;
            case 's': return it.strength;
            case 'd': return it.darkness;
            case 'f': return it.firing;
            default: throw new IllegalArgumentException("a batch has no such thing");
        }
    }

    // ---- the wheel

    public int draw(int batch) throws IndexOutOfBoundsException, UnsupportedOperationException {
        Batch it = batchNumbered(batch);
        if (!it.isFired() || clock < it.ready) {
            throw new UnsupportedOperationException("the batch is not one to be drawn now");
        }
        return wheel.tell(it.darkness);
    }

    public int check() {
        return wheel.takeBias();
    }

    // ---- slats

    public int slats(char wood, int grain, int wetness, int many) throws IllegalArgumentException, IllegalStateException {
        if (wood != 'c' && wood != 'b') {
            throw new IllegalArgumentException("a wood is cedar 'c' or basswood 'b'");
        }
        if (isOutside(grain, 0, 9) || isOutside(wetness, 0, 40) || isOutside(many, 1, 500)) {
            throw new IllegalArgumentException("grain, wetness or slats are out of range");
        }
        if (slatLots.size() >= MOST_SLAT_LOTS) {
            throw new IllegalStateException("there are 12 lots of slats");
        }
        slatLots.add(new SlatLot(slatLots.size(), wood, grain, wetness, many));
        return slatLots.size() - 1;
    }

    public int season(int slats, int hours)
            throws IndexOutOfBoundsException, IllegalArgumentException, UnsupportedOperationException {
        SlatLot it = slatLotNumbered(slats);
        if (isOutside(hours, 1, 200)) {
            throw new IllegalArgumentException("hours are 1 to 200");
        }
        if (clock < it.ready) {
            throw new UnsupportedOperationException("the slats are not ready");
        }
        int hoursAPoint = it.wood == 'c' ? 6 : 9;
        it.wetness = Math.max(0, it.wetness - hours / hoursAPoint);
        it.ready = clock + hours;
        return it.ready;
    }

    public int groove(int slats, int width)
            throws IndexOutOfBoundsException, IllegalArgumentException, UnsupportedOperationException {
        SlatLot it = slatLotNumbered(slats);
        if (isOutside(width, 5, 30)) {
            throw new IllegalArgumentException("a width is 5 to 30");
        }
        if (clock < it.ready || it.wetness > MOST_WETNESS_TO_GROOVE || it.isGrooved()) {
            throw new UnsupportedOperationException("the slats are not ones to be grooved now");
        }
        if (!drive.moves(drive.groover)) {
            throw new UnsupportedOperationException("the groover does not run");
        }
        it.width = width;
        return it.many;
    }

    public int slat(int slats, char what) throws IndexOutOfBoundsException, IllegalArgumentException {
        SlatLot it = slatLotNumbered(slats);
        switch (what) {
            case 'n': return it.many;
            case 'w': return it.wetness;
            case 'g': return it.width;
            case 'r': return it.ready;
            default: throw new IllegalArgumentException("slats have no such thing");
        }
    }

    // ---- runs of pencils

    public int lay(int batch, int slats, char shape, int many, int hand)
            throws IndexOutOfBoundsException, IllegalArgumentException, UnsupportedOperationException, IllegalStateException {
        Batch leads = batchNumbered(batch);
        SlatLot wood = slatLotNumbered(slats);
        int perPair = pencilsOfTwoSlats(shape);
        if (perPair < 1 || isOutside(many, 1, 500) || isOutside(hand, 0, 9)) {
            throw new IllegalArgumentException("the shape, the pencils or the hand are out of range");
        }
        if (!leads.isFired() || clock < leads.ready || clock < wood.ready || !wood.isGrooved()) {
            throw new UnsupportedOperationException("the batch or the slats are not ones to be laid now");
        }
        int apart = Math.abs(2 * wood.width - leads.bore);
        if (apart > MOST_APART) {
            throw new UnsupportedOperationException("the groove does not fit");
        }
        int slatsAway = (many + perPair - 1) / perPair * 2;
        if (leads.leads < many || wood.many < slatsAway) {
            throw new UnsupportedOperationException("there are not as many leads or slats");
        }
        if (runs.size() >= MOST_RUNS) {
            throw new IllegalStateException("there are 16 runs");
        }
        leads.leads -= many;
        wood.many -= slatsAway;
        laid += many;
        runs.add(new Run(runs.size(), leads, wood, hand, many, apart + wood.grain / 4, clock + GLUE_HOURS));
        return runs.size() - 1;
    }

    public int coat(int run, int colour)
            throws IndexOutOfBoundsException, IllegalArgumentException, UnsupportedOperationException {
        Run it = runNumbered(run);
        if (isOutside(colour, 0, 9)) {
            throw new IllegalArgumentException("a colour is 0 to 9");
        }
        if (clock < it.ready || it.coats >= MOST_COATS) {
            throw new UnsupportedOperationException("the run is not one to be coated now");
        }
        if (!drive.moves(drive.coater)) {
            throw new UnsupportedOperationException("the coater does not run");
        }
        it.coats++;
        it.colour = colour;
        it.ready = clock + COAT_HOURS;
        return it.coats;
    }

    public int stamp(int run) throws IndexOutOfBoundsException, UnsupportedOperationException {
        Run it = runNumbered(run);
        if (clock < it.ready || it.coats < COATS_TO_STAMP || it.isStamped()) {
            throw new UnsupportedOperationException("the run is not one to be stamped now");
        }
        if (clock < it.batch.ready) {
            throw new UnsupportedOperationException("the batch is not ready");
        }
        it.stamp = gradeOf(wheel.tell(it.batch.darkness));
        return it.stamp;
    }

    public int erase(int run, int pumice)
            throws IndexOutOfBoundsException, IllegalArgumentException, UnsupportedOperationException {
        Run it = runNumbered(run);
        if (isOutside(pumice, 0, 9)) {
            throw new IllegalArgumentException("pumice is 0 to 9");
        }
        if (!it.isStamped() || it.hasErasers) {
            throw new UnsupportedOperationException("the run is not one to get erasers now");
        }
        it.hasErasers = true;
        return it.pencils;
    }

    public int run(int run, char what) throws IndexOutOfBoundsException, IllegalArgumentException {
        Run it = runNumbered(run);
        switch (what) {
            case 'n': return it.pencils;
            case 'b': return it.broken;
            case 'c': return it.coats;
            case 'l': return it.colour;
            case 'g': return it.stamp;
            case 'o': return it.offCentre;
            case 'r': return it.ready;
            default: throw new IllegalArgumentException("a run has no such thing");
        }
    }

    // ---- falls and samples

    public int fall(int run, int height) throws IndexOutOfBoundsException, IllegalArgumentException {
        Run it = runNumbered(run);
        if (isOutside(height, 1, 9)) {
            throw new IllegalArgumentException("a height is 1 to 9");
        }
        int force = Math.max(0, 40 * height + 20 * it.offCentre - it.batch.strength);
        int breaking = Math.min(it.pencils * force / 400, it.pencils - it.broken);
        it.broken += breaking;
        return breaking;
    }

    public int sample(int run, int many)
            throws IndexOutOfBoundsException, IllegalArgumentException, UnsupportedOperationException {
        Run it = runNumbered(run);
        if (isOutside(many, 1, 50)) {
            throw new IllegalArgumentException("a sample is 1 to 50");
        }
        if (it.pencils < many) {
            throw new UnsupportedOperationException("there are not as many pencils");
        }
        int brokenBefore = it.broken;
        for (int taken = 0; taken < many && it.pencils > 0; taken++) {
            z = (int) ((long) z * MULTIPLIER % MODULUS);
            if (z % it.pencils < it.broken) {
                it.broken--;
            }
            it.pencils--;
        }
        sampled += many;
        return brokenBefore - it.broken;
    }

    public int seed(int z) throws IllegalArgumentException {
        if (isOutside(z, 1, MODULUS - 1)) {
            throw new IllegalArgumentException("z is 1 to 2147483646");
        }
        int was = this.z;
        this.z = z;
        return was;
    }

    // ---- grosses, orders and claims

    public int gross(int grade) throws IllegalArgumentException, IllegalStateException {
        if (isOutside(grade, 0, BEST_GRADE)) {
            throw new IllegalArgumentException("a grade is 0 to 19");
        }
        if (grosses.size() >= MOST_GROSSES) {
            throw new IllegalStateException("there are 30 grosses");
        }
        grosses.add(new Gross(grade));
        return grosses.size() - 1;
    }

    public int pack(int gross, int run, int many)
            throws IndexOutOfBoundsException, IllegalArgumentException, UnsupportedOperationException {
        Gross to = grossNumbered(gross);
        Run from = runNumbered(run);
        if (isOutside(many, 1, FULL_GROSS)) {
            throw new IllegalArgumentException("a part is 1 to 144 pencils");
        }
        if (from.stamp != to.grade || clock < from.ready || from.pencils < many) {
            throw new UnsupportedOperationException("the run has not as many pencils of this grade now");
        }
        if (to.pencils + many > FULL_GROSS || to.isShipped) {
            throw new UnsupportedOperationException("the gross takes no more of them");
        }
        int whole = Math.min(many, from.pencils - from.broken);
        Part part = new Part(from, many, many - whole);
        from.pencils -= part.pencils;
        from.broken -= part.broken;
        to.parts.add(part);
        to.pencils += part.pencils;
        return to.pencils;
    }

    public int order(int grade, int grosses, int until) throws IllegalArgumentException, IllegalStateException {
        if (isOutside(grade, 0, BEST_GRADE) || isOutside(grosses, 1, 9) || isOutside(until, 0, LAST_HOUR)) {
            throw new IllegalArgumentException("the grade, the grosses or the hour are out of range");
        }
        if (until < clock) {
            throw new IllegalArgumentException("the hour has gone by");
        }
        if (orders.size() >= MOST_ORDERS) {
            throw new IllegalStateException("there are 12 orders");
        }
        orders.add(new Order(grade, grosses, until));
        return orders.size() - 1;
    }

    public int ship(int order, int gross) throws IndexOutOfBoundsException, UnsupportedOperationException {
        Order to = orderNumbered(order);
        Gross it = grossNumbered(gross);
        if (it.pencils < FULL_GROSS || it.grade != to.grade || it.isShipped) {
            throw new UnsupportedOperationException("the gross is not one for this order");
        }
        if (to.lacks < 1) {
            throw new UnsupportedOperationException("the order lacks none");
        }
        it.isShipped = true;
        to.lacks--;
        if (clock > to.until) {
            to.wasShippedLate = true;
        }
        return to.lacks;
    }

    public boolean isLate(int order) throws IndexOutOfBoundsException {
        Order it = orderNumbered(order);
        return it.wasShippedLate || it.lacks > 0 && clock > it.until;
    }

    public boolean claim(int gross) throws IndexOutOfBoundsException {
        Gross it = grossNumbered(gross);
        for (int i = 0; i < it.parts.size(); i++) {
            Part part = it.parts.get(i);
            int drift = Math.abs(gradeOf(part.run.batch.darkness) - part.run.stamp);
            if (drift > 1 || part.broken > 0) {
                return false;
            }
        }
        return true;
    }

    public int parts(int gross) throws IndexOutOfBoundsException {
        return grossNumbered(gross).parts.size();
    }

    public int trace(int gross, int part, char what) throws IndexOutOfBoundsException, IllegalArgumentException {
        Part it = partNumbered(grossNumbered(gross), part);
        switch (what) {
            case 'r': return it.run.number;
            case 'n': return it.pencils;
            case 'x': return it.broken;
            case 'b': return it.run.batch.number;
            case 'f': return it.run.batch.firing;
            case 'k': return it.run.batch.kiln;
            case 's': return it.run.slats.number;
            case 'h': return it.run.hand;
            case 'g': return it.run.batch.mixture.graphite;
            case 'c': return it.run.batch.mixture.clay;
            default: throw new IllegalArgumentException("a part has no such thing");
        }
    }

    // ---- sums over the works

    public int missing() {
        int packed = 0;
        for (int i = 0; i < grosses.size(); i++) {
            packed += grosses.get(i).pencils;
        }
        return laid - pencilsInRuns() - packed - sampled;
    }

    public long checksum() {
        long sum = 7;
        for (int i = 0; i < batches.size(); i++) {
            Batch it = batches.get(i);
            sum = 31 * sum + it.leads;
            sum = 31 * sum + it.darkness;
            sum = 31 * sum + it.strength;
        }
        for (int i = 0; i < runs.size(); i++) {
            Run it = runs.get(i);
            sum = 31 * sum + it.pencils;
            sum = 31 * sum + it.broken;
        }
        for (int i = 0; i < grosses.size(); i++) {
            sum = 31 * sum + grosses.get(i).pencils;
        }
        return sum;
    }

    public float brokenShare() throws ArithmeticException {
        int all = pencilsInRuns();
        if (all < 1) {
            throw new ArithmeticException("there are no pencils in runs");
        }
        int broken = 0;
        for (int i = 0; i < runs.size(); i++) {
            broken += runs.get(i).broken;
        }
        return (float) broken / (float) all;
    }

    public double meanDarkness() throws ArithmeticException {
        int sum = 0;
        int fired = 0;
        for (int i = 0; i < batches.size(); i++) {
            Batch it = batches.get(i);
            if (it.isFired()) {
                sum += it.darkness;
                fired++;
            }
        }
        if (fired < 1) {
            throw new ArithmeticException("no batch was fired");
        }
        return (double) sum / (double) fired;
    }

    public boolean isSound() {
        return missing() == 0 && areGrossesOfOneGrade() && drive.hasNoRing() && areBrokenAmongPencils();
    }

    // ---- what the calls share

    private static boolean isOutside(int number, int least, int most) {
        return number < least || number > most;
    }

    private static int clamped(int number, int least, int most) {
        return Math.max(least, Math.min(most, number));
    }

    private static int gradeOf(int darkness) {
        return darkness / DARKNESS_A_GRADE;
    }

    /** 0 where there is no such shape. */
    private static int pencilsOfTwoSlats(char shape) {
        switch (shape) {
            case '6': return 6;
            case '0': return 5;
            case '3': return 7;
            default: return 0;
        }
    }

    private Machine machineNamed(char name) {
        switch (name) {
            case 'm': return drive.mill;
            case 'p': return drive.press;
            case 'g': return drive.groover;
            case 'c': return drive.coater;
            default: throw new IllegalArgumentException("there is no such machine");
        }
    }

    private Lot lotNumbered(int number) {
        if (number < 0 || number >= lots.size()) {
            throw new IndexOutOfBoundsException("there is no such lot");
        }
        return lots.get(number);
    }

    private Mixture mixtureNumbered(int number) {
        if (number < 0 || number >= mixtures.size()) {
            throw new IndexOutOfBoundsException("there is no such mixture");
        }
        return mixtures.get(number);
    }

    private Batch batchNumbered(int number) {
        if (number < 0 || number >= batches.size()) {
            throw new IndexOutOfBoundsException("there is no such batch");
        }
        return batches.get(number);
    }

    private SlatLot slatLotNumbered(int number) {
        if (number < 0 || number >= slatLots.size()) {
            throw new IndexOutOfBoundsException("there is no such lot of slats");
        }
        return slatLots.get(number);
    }

    private Run runNumbered(int number) {
        if (number < 0 || number >= runs.size()) {
            throw new IndexOutOfBoundsException("there is no such run");
        }
        return runs.get(number);
    }

    private Gross grossNumbered(int number) {
        if (number < 0 || number >= grosses.size()) {
            throw new IndexOutOfBoundsException("there is no such gross");
        }
        return grosses.get(number);
    }

    private static Part partNumbered(Gross gross, int number) {
        if (number < 0 || number >= gross.parts.size()) {
            throw new IndexOutOfBoundsException("there is no such part");
        }
        return gross.parts.get(number);
    }

    private Order orderNumbered(int number) {
        if (number < 0 || number >= orders.size()) {
            throw new IndexOutOfBoundsException("there is no such order");
        }
        return orders.get(number);
    }

    private int pencilsInRuns() {
        int all = 0;
        for (int i = 0; i < runs.size(); i++) {
            all += runs.get(i).pencils;
        }
        return all;
    }

    private boolean areGrossesOfOneGrade() {
        for (int i = 0; i < grosses.size(); i++) {
            Gross gross = grosses.get(i);
            for (int k = 0; k < gross.parts.size(); k++) {
                if (gross.parts.get(k).run.stamp != gross.grade) {
                    return false;
                }
            }
        }
        return true;
    }

    private boolean areBrokenAmongPencils() {
        for (int i = 0; i < runs.size(); i++) {
            Run it = runs.get(i);
            if (it.broken > it.pencils) {
                return false;
            }
        }
        return true;
    }

    // ---- what the works hold

    private static final class Machine {
        final char name;
        boolean isOn = true;
        /** null where the shaft drives it */
        Machine driver = null;

        Machine(char name) {
            this.name = name;
        }
    }

    /** The shaft and what it drives. */
    private static final class Drive {
        static final char SHAFT = '-';
        /** No chain of drivers without a ring is longer than this. */
        static final int MACHINES = 4;

        final Machine mill = new Machine('m');
        final Machine press = new Machine('p');
        final Machine groover = new Machine('g');
        final Machine coater = new Machine('c');
        boolean shaftTurns = true;

        boolean moves(Machine machine) {
            Machine at = machine;
            for (int step = 0; step < MACHINES && at != null; step++) {
                if (!at.isOn) {
                    return false;
                }
                at = at.driver;
            }
            return at == null && shaftTurns;
        }

        /** Whether the other one is this machine, or drives it, straight or by others. */
        boolean hangsOn(Machine machine, Machine other) {
            Machine at = machine;
            for (int step = 0; step < MACHINES && at != null; step++) {
                if (at == other) {
                    return true;
                }
                at = at.driver;
            }
            return false;
        }

        boolean hasNoRing() {
            return hangsOnShaft(mill) && hangsOnShaft(press) && hangsOnShaft(groover) && hangsOnShaft(coater);
        }

        private static boolean hangsOnShaft(Machine machine) {
            Machine at = machine;
            for (int step = 0; step < MACHINES && at != null; step++) {
                at = at.driver;
            }
            return at == null;
        }
    }

    private static final class Wheel {
        static final int DRAWS_A_DRIFT = 8;
        static final int DRIFT = 3;

        private int bias = 0;
        private int drawsSinceDrift = 0;

        int tell(int darkness) {
            int told = clamped(darkness + bias, 0, MOST_DARKNESS);
            drawsSinceDrift++;
            if (drawsSinceDrift == DRAWS_A_DRIFT) {
                drawsSinceDrift = 0;
                bias += DRIFT;
            }
            return told;
        }

        int takeBias() {
            int was = bias;
            bias = 0;
            drawsSinceDrift = 0;
            return was;
        }
    }

    private static final class Lot {
        final char kind;
        final int purity;
        final int size;
        int kilos;

        Lot(char kind, int purity, int size, int kilos) {
            this.kind = kind;
            this.purity = purity;
            this.size = size;
            this.kilos = kilos;
        }
    }

    private static final class Mixture {
        final int graphite;
        final int clay;
        final int carbon;
        final int fineness;
        int kilos;

        Mixture(int graphite, int clay, int carbon, int fineness, int kilos) {
            this.graphite = graphite;
            this.clay = clay;
            this.carbon = carbon;
            this.fineness = fineness;
            this.kilos = kilos;
        }
    }

    private static final class Batch {
        final int number;
        final Mixture mixture;
        final int bore;
        int leads;
        int warped = 0;
        int ready = 0;
        int strength = 0;
        int darkness = 0;
        int firing = -1;
        int kiln = -1;
        boolean isDried = false;
        boolean isSoaked = false;

        Batch(int number, Mixture mixture, int leads, int bore) {
            this.number = number;
            this.mixture = mixture;
            this.leads = leads;
            this.bore = bore;
        }

        boolean isFired() {
            return firing >= 0;
        }
    }

    private static final class SlatLot {
        final int number;
        final char wood;
        final int grain;
        int wetness;
        int many;
        int width = 0;
        int ready = 0;

        SlatLot(int number, char wood, int grain, int wetness, int many) {
            this.number = number;
            this.wood = wood;
            this.grain = grain;
            this.wetness = wetness;
            this.many = many;
        }

        boolean isGrooved() {
            return width > 0;
        }
    }

    private static final class Run {
        final int number;
        final Batch batch;
        final SlatLot slats;
        final int hand;
        final int offCentre;
        int pencils;
        int broken = 0;
        int coats = 0;
        int colour = -1;
        int stamp = -1;
        int ready;
        boolean hasErasers = false;

        Run(int number, Batch batch, SlatLot slats, int hand, int pencils, int offCentre, int ready) {
            this.number = number;
            this.batch = batch;
            this.slats = slats;
            this.hand = hand;
            this.pencils = pencils;
            this.offCentre = offCentre;
            this.ready = ready;
        }

        boolean isStamped() {
            return stamp >= 0;
        }
    }

    private static final class Part {
        final Run run;
        final int pencils;
        final int broken;

        Part(Run run, int pencils, int broken) {
            this.run = run;
            this.pencils = pencils;
            this.broken = broken;
        }
    }

    private static final class Gross {
        final int grade;
        final ArrayList<Part> parts = new ArrayList<Part>();
        int pencils = 0;
        boolean isShipped = false;

        Gross(int grade) {
            this.grade = grade;
        }
    }

    private static final class Order {
        final int grade;
        final int until;
        int lacks;
        boolean wasShippedLate = false;

        Order(int grade, int lacks, int until) {
            this.grade = grade;
            this.lacks = lacks;
            this.until = until;
        }
    }
}
