/** All that can be read of a works by calls that change nothing, as one text. */
final class Readings {
    private Readings() {
    }

    static String of(Graphline x) {
        StringBuilder out = new StringBuilder();
        for (char machine : "mpgc".toCharArray()) {
            out.append(x.runs(machine)).append(' ');
        }
        for (int die = 0; die < 4; die++) {
            out.append(x.worn(die)).append(' ');
        }
        rows(out, "lot", n -> x.kilos(n));
        rows(out, "mixture", n -> fields("cfk", what -> x.mixture(n, what)));
        rows(out, "batch", n -> fields("nwbrsdf", what -> x.batch(n, what)));
        rows(out, "slat", n -> fields("nwgr", what -> x.slat(n, what)));
        rows(out, "run", n -> fields("nbclgor", what -> x.run(n, what)));
        rows(out, "order", n -> x.isLate(n));
        rows(out, "gross", n -> x.claim(n) + " " + x.parts(n) + parts(x, n));
        out.append("\nsums ").append(x.missing()).append(' ').append(x.checksum()).append(' ').append(x.isSound());
        return out.toString();
    }

    private interface Row {
        Object at(int number);
    }

    private interface Field {
        int at(char what);
    }

    private static void rows(StringBuilder out, String name, Row row) {
        for (int number = 0; number < 40; number++) {
            try {
                out.append('\n').append(name).append(number).append(' ').append(row.at(number));
            } catch (IndexOutOfBoundsException e) {
                return;
            }
        }
    }

    private static String fields(String names, Field field) {
        StringBuilder out = new StringBuilder();
        for (char what : names.toCharArray()) {
            out.append(what).append(field.at(what)).append(' ');
        }
        return out.toString();
    }

    private static String parts(Graphline x, int gross) {
        StringBuilder out = new StringBuilder();
        for (int part = 0; part < x.parts(gross); part++) {
            int it = part;
            out.append(" | ").append(fields("rnxbfkshgc", what -> x.trace(gross, it, what)));
        }
        return out.toString();
    }
}
