/**
 * What later calls show of a works, those that change it too, as one text. Each of its questions is put to a works
 * made anew and makes at most some 200 calls. The questions are small ones: where one makes a call that is refused,
 * and the refusal is what changes the works by a fault, the next one would not show it.
 */
final class Later {
    private interface Numbered {
        Object at(int number);
    }

    private interface Field {
        Object at(int number, char what);
    }

    private static final int QUESTIONS = 10;
    private static final int QUESTIONS_OF_A_NUMBER = 14;
    private static final int NUMBERS = 3;
    /** How long a kiln is waited for: it shows so whether it is ready now, soon, or shortly before the longest firing. */
    private static final int[] WAITS = {0, 1, 11};

    private final Graphline x;
    private final StringBuilder out;

    private Later(Graphline x, StringBuilder out) {
        this.x = x;
        this.out = out;
    }

    static String of(Story story) {
        StringBuilder out = new StringBuilder();
        for (int question = 0; question < QUESTIONS; question++) {
            out.append('\n').append(question).append(": ");
            new Later(story.told(), out).ask(question);
        }
        for (int question = 0; question < QUESTIONS_OF_A_NUMBER; question++) {
            for (int number = 0; number < NUMBERS; number++) {
                out.append('\n').append(question).append(" of ").append(number).append(": ");
                new Later(story.told(), out).askOf(number, question);
            }
        }
        for (int wait : WAITS) {
            for (int number = 0; number < NUMBERS; number++) {
                out.append("\nfired behind ").append(wait).append(" of ").append(number).append(": ");
                new Later(story.told(), out).firing(number, 0, wait);
                new Later(story.told(), out).firing(number, 1, wait);
            }
        }
        return out.toString();
    }

    private void ask(int question) {
        switch (question) {
            case 0: levers(); break;
            case 1: smallThings(); break;
            case 2: fields(17, "nwbrsdf", (n, what) -> x.batch(n, what)); break;
            case 3: fields(13, "nwgr", (n, what) -> x.slat(n, what)); break;
            case 4: fields(17, "nbclgor", (n, what) -> x.run(n, what)); break;
            case 5: ordersAndGrosses(); break;
            case 6: parts(); break;
            case 7: room(); break;
            case 8: life(); break;
            default: each(17, n -> x.dry(n, 5)); break;
        }
    }

    private void askOf(int n, int question) {
        switch (question) {
            case 0: drying(n); break;
            case 1: put(y -> x.soak(n, 1)); break;
            case 2: drawings(n); break;
            case 3: put(y -> x.groove(n, 10)); break;
            case 4: put(y -> x.season(n, 1)); break;
            case 5: put(y -> x.coat(n, 1)); break;
            case 6: stampAndErasers(n); break;
            case 7: put(y -> x.erase(n, 1)); break;
            case 8: falls(n); break;
            case 9: layings(n); break;
            case 10: each(3, run -> x.pack(n, run, 1)); break;
            case 11: each(6, gross -> ship(n, gross)); break;
            case 12: put(y -> x.press(0, n, 1)); break;
            default: put(y -> x.renew(n)); break;
        }
    }

    /** Returns whether there is such a number. */
    private boolean put(Story.Step call) {
        try {
            out.append(call.on(x)).append(' ');
            return true;
        } catch (IndexOutOfBoundsException e) {
            out.append("- ");
            return false;
        } catch (RuntimeException e) {
            out.append(e.getClass().getSimpleName()).append(' ');
            return true;
        }
    }

    private void each(int most, Numbered call) {
        for (int number = 0; number < most; number++) {
            int it = number;
            if (!put(y -> call.at(it))) {
                return;
            }
        }
    }

    private void fields(int most, String names, Field field) {
        for (char what : names.toCharArray()) {
            each(most, n -> field.at(n, what));
        }
    }

    private void levers() {
        put(y -> x.shaft(true));
        for (char machine : "mpgc".toCharArray()) {
            put(y -> x.belt(machine, '-'));
            put(y -> x.on(machine, true));
        }
        put(y -> x.seed(1));
        put(y -> x.check());
        each(4, n -> x.renew(n));
        put(y -> x.go(1));
    }

    private void smallThings() {
        for (char machine : "mpgc".toCharArray()) {
            put(y -> x.runs(machine));
        }
        each(4, n -> x.worn(n));
        each(17, n -> x.kilos(n));
        fields(13, "cfk", (n, what) -> x.mixture(n, what));
        put(y -> x.missing());
        put(y -> x.checksum());
        put(y -> x.brokenShare());
        put(y -> x.meanDarkness());
        put(y -> x.isSound());
    }

    private void ordersAndGrosses() {
        each(13, n -> x.isLate(n));
        each(31, n -> x.claim(n));
        each(31, n -> x.parts(n));
        put(y -> x.go(500));
        each(13, n -> x.isLate(n));
    }

    /** The first parts of the first grosses, and the last one of each. */
    private void parts() {
        for (int gross = 0; gross < NUMBERS; gross++) {
            int of = gross;
            for (char what : "rnxbfkshgc".toCharArray()) {
                each(3, n -> x.trace(of, n, what));
                put(y -> x.trace(of, x.parts(of) - 1, what));
            }
        }
    }

    private void room() {
        each(13, n -> x.mix(0, 1, 1, 1, 1));
        each(17, n -> x.press(0, 0, 1));
        each(17, n -> x.lot('g', 50, 1, 1));
        each(13, n -> x.slats('c', 0, 0, 1));
        each(31, n -> x.gross(0));
        each(13, n -> x.order(0, 1, 9999));
    }

    /** What there is goes on to the end: a mark that is kept for later shows in what is done then. */
    private void life() {
        each(3, n -> x.dry(n, 5));
        put(y -> x.go(18));
        for (int batch = 0; batch < NUMBERS; batch++) {
            int leads = batch;
            put(y -> x.fire(leads, leads % 2, 700, 1));
            put(y -> x.go(12));
        }
        each(3, n -> x.soak(n, 1));
        each(3, n -> x.groove(n, 10));
        each(3, n -> x.lay(n, n, '6', 1, 0));
        for (int coat = 0; coat < 3; coat++) {
            put(y -> x.go(8));
            each(4, n -> x.coat(n, 1));
        }
        put(y -> x.go(8));
        each(4, n -> x.stamp(n));
        each(4, n -> x.erase(n, 1));
        for (int run = 0; run < 4; run++) {
            int from = run;
            put(y -> x.pack(x.gross(Math.max(0, x.run(from, 'g'))), from, 1));
        }
        put(y -> x.check());
        each(31, n -> x.trace(n, 0, 'k'));
        put(y -> x.checksum());
    }

    private void drying(int batch) {
        put(y -> x.dry(batch, 5));
        put(y -> x.batch(batch, 'w'));
        put(y -> x.batch(batch, 'n'));
    }

    private void firing(int batch, int kiln, int wait) {
        put(y -> wait == 0 ? "now" : x.go(wait));
        put(y -> x.fire(batch, kiln, 700, 12));
    }

    private void drawings(int batch) {
        put(y -> x.go(12));
        for (int draw = 0; draw < 9; draw++) {
            put(y -> x.draw(batch));
        }
        put(y -> x.check());
    }

    private void stampAndErasers(int run) {
        put(y -> x.stamp(run));
        put(y -> x.erase(run, 1));
        put(y -> x.check());
    }

    private void falls(int run) {
        put(y -> x.fall(run, 9));
        put(y -> x.sample(run, 1));
        put(y -> x.sample(run, 5));
        put(y -> x.seed(1));
    }

    private void layings(int batch) {
        each(3, slats -> x.lay(batch, slats, '6', 1, 0));
        put(y -> x.batch(batch, 'n'));
        each(3, n -> x.slat(n, 'n'));
    }

    /** A word for no such order, or the row would end there. */
    private Object ship(int order, int gross) {
        x.parts(gross);
        try {
            return x.ship(order, gross);
        } catch (IndexOutOfBoundsException e) {
            return "none";
        }
    }
}
