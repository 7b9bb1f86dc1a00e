import java.util.ArrayList;
import java.util.List;
import java.util.Map;
import java.util.Random;
import java.util.TreeMap;

/**
 * Long runs of calls by chance, from fixed seeds. A second works is spared the calls that throw: its answers stay
 * the same, and so do those of later calls, as a method that throws changes nothing. A call throws what the document
 * lists for it alone, and by a throw statement of its own; the works stays sound.
 */
public final class RandomCallsTest {
    private static final int RUNS = 6000;
    /** With those that Bench makes ahead of them, and Later behind them, at most 512. */
    private static final int CALLS = 300;
    /** To ask Later costs far more than the calls themselves. */
    private static final int RUNS_A_RETELLING = 20;
    private static final String INDEX = "IndexOutOfBoundsException";
    private static final String ARGUMENT = "IllegalArgumentException";
    private static final String UNSUPPORTED = "UnsupportedOperationException";
    private static final String STATE = "IllegalStateException";
    private static final String ARITHMETIC = "ArithmeticException";

    private interface Maker {
        Story.Step make(RandomCallsTest here);
    }

    private record Kind(String name, int weight, List<String> thrown, Maker maker) {
    }

    private static final Map<String, Integer> seen = new TreeMap<>();

    private final Random random;
    private final List<Story.Step> told = new ArrayList<>();
    private final List<Story.Step> sparing = new ArrayList<>();
    private int made = 0;

    private RandomCallsTest(long seed) {
        random = new Random(seed);
    }

    public static void main(String[] args) {
        List<Kind> kinds = kinds();
        for (int seed = 0; seed < RUNS; seed++) {
            new RandomCallsTest(seed).twins(kinds, seed % RUNS_A_RETELLING == 0);
        }
        for (Kind kind : kinds) {
            Due.same(kind.name + " answered: true", kind.name + " answered: " + seen.containsKey(kind.name));
            for (String name : kind.thrown) {
                String both = kind.name + " " + name;
                Due.same(both + ": true", both + ": " + seen.containsKey(both));
            }
        }
        Due.end();
    }

    private void twins(List<Kind> kinds, boolean isRetold) {
        Story begun = begun(random.nextInt(8));
        Graphline all = begun.told();
        Graphline spared = begun.told();
        List<Kind> favoured = favoured(kinds);
        while (made < CALLS) {
            step(favoured.get(random.nextInt(favoured.size())), all, spared);
        }
        Due.same(true, all.isSound());
        Due.same(0, all.missing());
        if (isRetold) {
            String due = begun.then(sparing.toArray(new Story.Step[0])).later();
            Due.same(due, begun.then(told.toArray(new Story.Step[0])).later());
        }
    }

    private static Story begun(int from) {
        switch (from) {
            case 0: return new Story();
            case 1: return Bench.mixed();
            case 2: return Bench.grooved();
            case 3: return Bench.coated(400);
            case 4: return Bench.grooved().times(14, x -> x.lay(0, 0, '6', 1, 0));
            case 5: return Bench.stamped(300).then(x -> x.gross(18), x -> x.pack(0, 0, 100));
            case 6: return Bench.stamped(500).times(19, x -> x.go(500));
            default: return Bench.stamped(500);
        }
    }

    /** Each kind as often as it weighs; three of them, by chance, far more, so that limits are reached. */
    private List<Kind> favoured(List<Kind> kinds) {
        List<Kind> out = new ArrayList<>();
        for (Kind kind : kinds) {
            for (int i = 0; i < kind.weight; i++) {
                out.add(kind);
            }
        }
        int all = out.size();
        for (int favourite = 0; favourite < 3; favourite++) {
            Kind kind = kinds.get(random.nextInt(kinds.size()));
            for (int i = 0; i < all / 4; i++) {
                out.add(kind);
            }
        }
        return out;
    }

    private void step(Kind kind, Graphline all, Graphline spared) {
        Story.Step answer = kind.maker.make(this);
        made++;
        Object got;
        try {
            got = answer.on(all);
        } catch (RuntimeException e) {
            String name = e.getClass().getSimpleName();
            Due.same(kind.name + " " + name + ": own true, listed true",
                kind.name + " " + name + ": own " + Due.isOwn(e) + ", listed " + kind.thrown.contains(name));
            seen.merge(kind.name + " " + name, 1, Integer::sum);
            told.add(x -> refused(answer, x));
            return;
        }
        seen.merge(kind.name, 1, Integer::sum);
        told.add(answer);
        sparing.add(answer);
        Due.same(kind.name + got, kind.name + answer.on(spared));
    }

    private static Object refused(Story.Step answer, Graphline x) {
        try {
            return answer.on(x);
        } catch (RuntimeException e) {
            return null;
        }
    }

    /** Mostly from least to most, at times a step or far beyond. */
    private int number(int least, int most) {
        int chance = random.nextInt(60);
        switch (chance) {
            case 0: return least - 1;
            case 1: return most + 1;
            case 2: return random.nextBoolean() ? least : most;
            case 3: return random.nextInt(12) == 0 ? random.nextInt() : least;
            case 4: return random.nextInt(12) == 0 ? Integer.MIN_VALUE : most;
            case 5: return random.nextInt(12) == 0 ? Integer.MAX_VALUE : most;
            default: return (int) (least + (long) (random.nextDouble() * ((long) most - least + 1)));
        }
    }

    private char sign(String signs) {
        return random.nextInt(60) == 0 ? (char) random.nextInt(128) : signs.charAt(random.nextInt(signs.length()));
    }

    private boolean is() {
        return random.nextInt(8) != 0;
    }

    private static List<Kind> kinds() {
        List<Kind> out = new ArrayList<>();
        addClock(out);
        addLeads(out);
        addPencils(out);
        addGrosses(out);
        addSums(out);
        return out;
    }

    private static void add(List<Kind> out, String name, int weight, List<String> thrown, Maker maker) {
        out.add(new Kind(name, weight, thrown, maker));
    }

    private static void addClock(List<Kind> out) {
        add(out, "go", 60, List.of(ARGUMENT, STATE), r -> {
            int hours = r.random.nextInt(3) == 0 ? r.number(1, 500) : r.number(1, 24);
            return x -> x.go(hours);
        });
        add(out, "shaft", 3, List.of(), r -> {
            boolean is = r.is();
            return x -> x.shaft(is);
        });
        add(out, "belt", 8, List.of(ARGUMENT, UNSUPPORTED), r -> {
            char machine = r.sign("mpgc");
            char by = r.sign("mpgc---");
            return x -> x.belt(machine, by);
        });
        add(out, "on", 6, List.of(ARGUMENT), r -> {
            char machine = r.sign("mpgc");
            boolean is = r.is();
            return x -> x.on(machine, is);
        });
        add(out, "runs", 3, List.of(ARGUMENT), r -> {
            char machine = r.sign("mpgc");
            return x -> x.runs(machine);
        });
    }

    private static void addLeads(List<Kind> out) {
        add(out, "lot", 20, List.of(ARGUMENT, STATE), r -> {
            char kind = r.sign("gc");
            int purity = r.number(50, 99);
            int size = r.number(1, 9);
            int kilos = r.number(1, 500);
            return x -> x.lot(kind, purity, size, kilos);
        });
        add(out, "kilos", 3, List.of(INDEX), r -> {
            int lot = r.number(0, 7);
            return x -> x.kilos(lot);
        });
        add(out, "mix", 40, List.of(INDEX, ARGUMENT, UNSUPPORTED, STATE), r -> {
            int graphite = r.number(0, 5);
            int clay = r.number(0, 5);
            int kilos = r.number(1, 60);
            int more = r.number(1, 60);
            int days = r.number(1, 9);
            return x -> x.mix(graphite, clay, kilos, more, days);
        });
        add(out, "mixture", 4, List.of(INDEX, ARGUMENT), r -> {
            int mixture = r.number(0, 3);
            char what = r.sign("cfk");
            return x -> x.mixture(mixture, what);
        });
        add(out, "press", 40, List.of(INDEX, ARGUMENT, UNSUPPORTED, STATE), r -> {
            int mixture = r.number(0, 4);
            int die = r.number(0, 3);
            int kilos = r.random.nextBoolean() ? r.number(1, 40) : r.number(1, 3);
            return x -> x.press(mixture, die, kilos);
        });
        add(out, "worn", 3, List.of(ARGUMENT), r -> {
            int die = r.number(0, 3);
            return x -> x.worn(die);
        });
        add(out, "renew", 3, List.of(ARGUMENT), r -> {
            int die = r.number(0, 3);
            return x -> x.renew(die);
        });
        add(out, "dry", 30, List.of(INDEX, ARGUMENT, UNSUPPORTED), r -> {
            int batch = r.number(0, 6);
            int speed = r.number(1, 5);
            return x -> x.dry(batch, speed);
        });
        add(out, "fire", 30, List.of(INDEX, ARGUMENT, UNSUPPORTED), r -> {
            int batch = r.number(0, 6);
            int kiln = r.number(0, 1);
            int heat = r.number(700, 1200);
            int hours = r.number(1, 12);
            return x -> x.fire(batch, kiln, heat, hours);
        });
        add(out, "soak", 10, List.of(INDEX, ARGUMENT, UNSUPPORTED), r -> {
            int batch = r.number(0, 6);
            int wax = r.number(1, 5);
            return x -> x.soak(batch, wax);
        });
        add(out, "batch", 6, List.of(INDEX, ARGUMENT), r -> {
            int batch = r.number(0, 6);
            char what = r.sign("nwbrsdf");
            return x -> x.batch(batch, what);
        });
        add(out, "draw", 12, List.of(INDEX, UNSUPPORTED), r -> {
            int batch = r.number(0, 6);
            return x -> x.draw(batch);
        });
        add(out, "check", 1, List.of(), r -> x -> x.check());
    }

    private static void addPencils(List<Kind> out) {
        add(out, "slats", 16, List.of(ARGUMENT, STATE), r -> {
            char wood = r.sign("cb");
            int grain = r.number(0, 9);
            int wetness = r.number(0, 40);
            int many = r.number(1, 500);
            return x -> x.slats(wood, grain, wetness, many);
        });
        add(out, "season", 12, List.of(INDEX, ARGUMENT, UNSUPPORTED), r -> {
            int slats = r.number(0, 6);
            int hours = r.number(1, 200);
            return x -> x.season(slats, hours);
        });
        add(out, "groove", 24, List.of(INDEX, ARGUMENT, UNSUPPORTED), r -> {
            int slats = r.number(0, 6);
            int width = r.random.nextInt(20) == 0 ? r.number(5, 30) : r.number(9, 12);
            return x -> x.groove(slats, width);
        });
        add(out, "slat", 4, List.of(INDEX, ARGUMENT), r -> {
            int slats = r.number(0, 6);
            char what = r.sign("nwgr");
            return x -> x.slat(slats, what);
        });
        add(out, "lay", 60, List.of(INDEX, ARGUMENT, UNSUPPORTED, STATE), r -> {
            int batch = r.number(0, r.random.nextInt(7));
            int slats = r.number(0, r.random.nextInt(7));
            char shape = r.sign("603");
            int many = r.random.nextInt(4) == 0 ? r.number(1, 500) : r.number(1, 6);
            int hand = r.number(0, 9);
            return x -> x.lay(batch, slats, shape, many, hand);
        });
        add(out, "coat", 90, List.of(INDEX, ARGUMENT, UNSUPPORTED), r -> {
            int run = r.number(0, 3);
            int colour = r.number(0, 9);
            return x -> x.coat(run, colour);
        });
        add(out, "stamp", 20, List.of(INDEX, UNSUPPORTED), r -> {
            int run = r.number(0, 3);
            return x -> x.stamp(run);
        });
        add(out, "erase", 8, List.of(INDEX, ARGUMENT, UNSUPPORTED), r -> {
            int run = r.number(0, 3);
            int pumice = r.number(0, 9);
            return x -> x.erase(run, pumice);
        });
        add(out, "run", 6, List.of(INDEX, ARGUMENT), r -> {
            int run = r.number(0, 3);
            char what = r.sign("nbclgor");
            return x -> x.run(run, what);
        });
        add(out, "fall", 4, List.of(INDEX, ARGUMENT), r -> {
            int run = r.number(0, 5);
            int height = r.number(1, 9);
            return x -> x.fall(run, height);
        });
        add(out, "sample", 4, List.of(INDEX, ARGUMENT, UNSUPPORTED), r -> {
            int run = r.number(0, 5);
            int many = r.number(1, 50);
            return x -> x.sample(run, many);
        });
        add(out, "seed", 3, List.of(ARGUMENT), r -> {
            int z = r.number(1, 2147483646);
            return x -> x.seed(z);
        });
    }

    private static void addGrosses(List<Kind> out) {
        // A gross of a run's own stamp, and packs of whole grosses, or the random calls would hardly ever ship.
        add(out, "gross", 16, List.of(ARGUMENT, STATE), r -> {
            int grade = r.number(0, 19);
            int run = r.number(0, 3);
            return x -> x.gross(r.stampOr(x, run, grade));
        });
        add(out, "pack", 60, List.of(INDEX, ARGUMENT, UNSUPPORTED), r -> {
            int gross = r.number(0, 5);
            int run = r.number(0, 3);
            int many = r.random.nextBoolean() ? 144 : r.number(1, 144);
            return x -> x.pack(gross, run, many);
        });
        add(out, "order", 10, List.of(ARGUMENT, STATE), r -> {
            int grade = r.number(0, 19);
            int run = r.number(0, 3);
            int grosses = r.random.nextInt(10) == 0 ? r.number(1, 9) : r.number(1, 2);
            int until = r.number(0, 9999);
            return x -> x.order(r.stampOr(x, run, grade), grosses, until);
        });
        add(out, "ship", 40, List.of(INDEX, UNSUPPORTED), r -> {
            int order = r.number(0, 3);
            int gross = r.number(0, 5);
            return x -> x.ship(order, gross);
        });
        add(out, "isLate", 5, List.of(INDEX), r -> {
            int order = r.number(0, 3);
            return x -> x.isLate(order);
        });
        add(out, "claim", 5, List.of(INDEX), r -> {
            int gross = r.number(0, 5);
            return x -> x.claim(gross);
        });
        add(out, "parts", 5, List.of(INDEX), r -> {
            int gross = r.number(0, 5);
            return x -> x.parts(gross);
        });
        add(out, "trace", 24, List.of(INDEX, ARGUMENT), r -> {
            int gross = r.number(0, 5);
            int part = r.number(0, 1);
            char what = r.sign("rnxbfkshgc");
            return x -> x.trace(gross, part, what);
        });
    }

    private int stampOr(Graphline x, int run, int grade) {
        made++;
        try {
            int stamp = x.run(run, 'g');
            return stamp < 0 ? grade : stamp;
        } catch (IndexOutOfBoundsException e) {
            return grade;
        }
    }

    private static void addSums(List<Kind> out) {
        add(out, "missing", 2, List.of(), r -> x -> x.missing());
        add(out, "checksum", 3, List.of(), r -> x -> x.checksum());
        add(out, "brokenShare", 6, List.of(ARITHMETIC), r -> x -> x.brokenShare());
        add(out, "meanDarkness", 6, List.of(ARITHMETIC), r -> x -> x.meanDarkness());
        add(out, "isSound", 2, List.of(), r -> x -> x.isSound());
    }
}
