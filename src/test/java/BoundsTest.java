import java.util.ArrayList;
import java.util.List;

/**
 * For each method, what its parameters take up to the last value and refuse from the first one on, on both
 * sides; that of several exceptions the one that is documented first is thrown; and that a call that is refused
 * changes nothing, and one that is taken just what the document says.
 */
public final class BoundsTest {
    private static final String NO_SUCH = "throws IndexOutOfBoundsException";
    private static final String WRONG = "throws IllegalArgumentException";
    private static final String FULL = "throws IllegalStateException";
    private static final String UNFIT = "throws UnsupportedOperationException";
    private static final String NONE = "throws NoSuchElementException";

    private static final int EDITIONS = Trails.ROOMY_COUNTS[0];
    private static final int COPIES = Trails.ROOMY_COUNTS[1];
    private static final int OWNERS = Trails.ROOMY_COUNTS[2];
    private static final int MARKS = Trails.ROOMY_COUNTS[3];
    private static final int SALES = Trails.ROOMY_COUNTS[4];
    private static final int LOTS = Trails.ROOMY_COUNTS[5];

    private static final List<String> UNTOUCHED = readingBehind(Trails.ROOMY, Trails.ROOMY_COUNTS);
    private static final List<String> UNTOUCHED_FULL = readingBehind(Trails.FULL, Trails.FULL_COUNTS);

    /** A value that a parameter refuses, and with what. */
    private record Refused(String value, String exception) {
    }

    /** What one parameter takes, the first value standing in for it while another parameter is tried, and refuses. */
    private record Parameter(List<String> taken, List<Refused> refused) {
    }

    /** A method, the exceptions in the order of the document, and its parameters. */
    private static final class Row {
        final String name;
        final List<String> order;
        final List<Parameter> parameters = new ArrayList<>();

        Row(String name, String... order) {
            this.name = name;
            this.order = List.of(order);
        }

        Row takes(String... values) {
            parameters.add(new Parameter(List.of(values), new ArrayList<>()));
            return this;
        }

        Row refuses(String exception, String... values) {
            for (String value : values) {
                parameters.get(parameters.size() - 1).refused.add(new Refused(value, exception));
            }
            return this;
        }

        Row range(int least, int most) {
            return takes("" + least, "" + most).refuses(WRONG, "" + (least - 1), "" + (most + 1), "MIN", "MAX");
        }

        Row year(String... taken) {
            return takes(taken).refuses(WRONG, "1449", "2030", "MIN", "MAX");
        }

        /** The number of one of so many. */
        Row number(int count) {
            return takes("0", "" + (count - 1)).refusesOutside(count);
        }

        Row refusesOutside(int count) {
            return refuses(NO_SUCH, "-1", "" + count, "MIN", "MAX");
        }

        Row format() {
            return takes("2", "4", "8", "12").refuses(WRONG, "0", "1", "3", "5", "6", "7", "9", "10", "11", "13", "16",
                    "-2", "-12", "MIN", "MAX");
        }

        List<String> goodValues() {
            List<String> values = new ArrayList<>();
            for (Parameter parameter : parameters) {
                values.add(parameter.taken.get(0));
            }
            return values;
        }
    }

    private BoundsTest() {
    }

    public static void main(String[] args) {
        for (Row row : rowsOfTelling()) {
            tryRow(row);
            tryRefusedOnFull(row);
        }
        for (Row row : rowsOfAsking()) {
            tryRow(row);
        }
        for (Row row : rowsOfChains()) {
            tryRow(row);
        }
        Check.close();
    }

    // ---- What each method takes and refuses on the roomy trail ----

    private static List<Row> rowsOfTelling() {
        return List.of(
                new Row("edition", WRONG, FULL).range(1450, 1999).format(),
                new Row("copy", NO_SUCH, WRONG, FULL).number(EDITIONS).range(1, 999).range(0, 255),
                new Row("owner", WRONG, FULL).range(1450, 2029).takes("2029")
                        .refuses(WRONG, "2030", "1449", "MIN", "MAX").range(0, 9),
                new Row("owner", WRONG, FULL).takes("1500").takes("1500", "1501", "2029")
                        .refuses(WRONG, "1499", "2030", "0").takes("5"),
                new Row("mark", NO_SUCH, WRONG, FULL).number(COPIES).number(OWNERS).takes("'s'", "'i'", "'p'", "'a'")
                        .refuses(WRONG, "'r'", "'t'", "'h'", "'j'", "'o'", "'q'", "'`'", "'b'", "'S'", "'e'")
                        .refuses(WRONG, "0", "65535")
                        .range(1450, 2029).range(1, 30),
                new Row("sale", NO_SUCH, WRONG, FULL).number(OWNERS).range(1450, 2029),
                new Row("lot", NO_SUCH, WRONG, FULL).number(SALES).takes("-1", "0", "" + (EDITIONS - 1))
                        .refuses(NO_SUCH, "-2", "" + EDITIONS, "MIN", "MAX").format().range(0, 999).range(0, 255)
                        .range(1, 9999).number(OWNERS));
    }

    private static List<Row> rowsOfAsking() {
        return List.of(
                new Row("heir", NO_SUCH, WRONG).takes("0").refusesOutside(OWNERS).takes("1", "2", "3")
                        .refusesOutside(OWNERS).refuses(WRONG, "0"),
                new Row("heir", NO_SUCH, WRONG).takes("1").refusesOutside(OWNERS).takes("2").refusesOutside(OWNERS)
                        .refuses(WRONG, "1", "0", "3"),
                new Row("system", NO_SUCH, WRONG).number(OWNERS).takes("'f'", "'n'")
                        .refuses(WRONG, "'e'", "'g'", "'m'", "'o'", "'F'", "'N'", "0", "65535"),
                new Row("rebind", NO_SUCH, WRONG).takes("0", "1").refusesOutside(COPIES).range(1700, 2029),
                new Row("rebind", NO_SUCH, WRONG).takes("3").refusesOutside(COPIES).range(1905, 2029),
                new Row("likeness", NO_SUCH).number(COPIES).number(COPIES),
                new Row("wash", NO_SUCH).number(MARKS),
                new Row("withdraw", NO_SUCH).number(MARKS).takes("true", "false"),
                new Row("weight", NO_SUCH).number(MARKS),
                new Row("test", NO_SUCH).number(MARKS),
                new Row("lost", NO_SUCH).number(COPIES),
                new Row("score", NO_SUCH).number(LOTS).number(COPIES),
                new Row("match", NO_SUCH, NONE).takes("0", "1", "2", "3").refusesOutside(LOTS).refuses(NONE, "4"),
                new Row("confirm", NO_SUCH, UNFIT).takes("1").refusesOutside(LOTS).refuses(UNFIT, "2", "4").takes("0")
                        .refusesOutside(COPIES).refuses(UNFIT, "1", "2", "3"),
                new Row("confirm", NO_SUCH, UNFIT).takes("0").refusesOutside(LOTS).takes("0", "1")
                        .refusesOutside(COPIES).refuses(UNFIT, "2", "3"),
                new Row("reopen", NO_SUCH, UNFIT).takes("0").refusesOutside(LOTS).refuses(UNFIT, "1", "2", "3", "4"),
                new Row("dearest", NO_SUCH, NONE).takes("1").refusesOutside(COPIES).refuses(NONE, "0", "2", "3"),
                new Row("theft", NO_SUCH, WRONG, UNFIT).takes("1").refusesOutside(COPIES).refuses(UNFIT, "0", "2")
                        .number(OWNERS).range(1700, 2029),
                new Row("theft", NO_SUCH, WRONG, UNFIT).takes("3").refusesOutside(COPIES)
                        .number(OWNERS).range(1905, 2029),
                new Row("limit", WRONG).range(0, 9).range(0, 200),
                new Row("faith", NO_SUCH).number(OWNERS).takes("true", "false"),
                new Row("claim", NO_SUCH, UNFIT).takes("0", "2").refusesOutside(COPIES).refuses(UNFIT, "1", "3"),
                new Row("claimant", NO_SUCH, UNFIT, NONE).takes("0").refusesOutside(COPIES).refuses(UNFIT, "1", "3")
                        .refuses(NONE, "2"));
    }

    private static List<Row> rowsOfChains() {
        return List.of(
                new Row("holder", NO_SUCH, WRONG, NONE).takes("0", "1").refusesOutside(COPIES).year("1700", "2029")
                        .refuses(NONE, "1699", "1450"),
                new Row("holder", NO_SUCH, WRONG, NONE).takes("2").refusesOutside(COPIES).year("1600", "2029")
                        .refuses(NONE, "1599", "1585", "1580", "1579"),
                new Row("cost", NO_SUCH).number(COPIES),
                new Row("margin", NO_SUCH).number(COPIES),
                new Row("gaps", NO_SUCH).number(COPIES),
                new Row("stays", NO_SUCH).number(COPIES),
                new Row("stay", NO_SUCH, NONE).number(COPIES).takes("0").refuses(NONE, "-1", "3", "MIN", "MAX"),
                new Row("stay", NO_SUCH, NONE).takes("2").refusesOutside(COPIES).takes("0", "2")
                        .refuses(NONE, "-1", "3", "MIN", "MAX"),
                new Row("from", NO_SUCH, NONE).number(COPIES).takes("0").refuses(NONE, "-1", "3", "MIN", "MAX"),
                new Row("from", NO_SUCH, NONE).takes("2").refusesOutside(COPIES).takes("0", "2")
                        .refuses(NONE, "-1", "3", "MIN", "MAX"),
                new Row("rests", NO_SUCH).number(COPIES).number(MARKS),
                new Row("shelf", NO_SUCH, WRONG).number(OWNERS).year("1450", "2029"),
                new Row("shelved", NO_SUCH, WRONG, NONE).takes("1").refusesOutside(OWNERS).refuses(NONE, "0", "3")
                        .year("2029", "1770").refuses(NONE, "1450", "1769").takes("0", "2")
                        .refuses(NONE, "-1", "3", "MIN", "MAX"),
                new Row("written", NO_SUCH, WRONG, NONE).takes("1").refusesOutside(OWNERS).refuses(NONE, "0", "2", "3")
                        .year("1790", "2029").refuses(NONE, "1450", "1789").takes("1").refusesOutside(COPIES)
                        .refuses(NONE, "2", "3"),
                new Row("sign", NO_SUCH, WRONG, NONE).takes("1").refusesOutside(OWNERS).refuses(NONE, "0", "2", "3")
                        .year("1790", "2029").refuses(NONE, "1450", "1789").takes("1").refusesOutside(COPIES)
                        .refuses(NONE, "2", "3").takes("0", "2").refuses(NONE, "-1", "3", "MIN", "MAX"),
                new Row("sign", NO_SUCH, WRONG, NONE).takes("2").refusesOutside(OWNERS).year("1900", "2029")
                        .refuses(NONE, "1450", "1899").takes("0").refusesOutside(COPIES).takes("0", "1")
                        .refuses(NONE, "-1", "2", "MIN", "MAX"),
                new Row("checksum"),
                new Row("knownShare"),
                new Row("meanPrice"),
                new Row("isSound"));
    }

    // ---- Trying them ----

    private static void tryRow(Row row) {
        List<String> good = row.goodValues();
        tryTaken(callOf(row, good));
        for (int place = 0; place < good.size(); place++) {
            for (String value : row.parameters.get(place).taken) {
                tryTaken(callOf(row, with(good, place, value)));
            }
            for (Refused refused : row.parameters.get(place).refused) {
                tryRefused(callOf(row, with(good, place, refused.value)), refused.exception);
            }
        }
        trySeveral(row, 0, good, row.order.size(), true);
    }

    /** A call that is taken answers as the plain trail does, and leaves what that one leaves. */
    private static void tryTaken(String call) {
        Run run = Run.of(call, Trails.ROOMY);
        Run plain = new Run(call + " of the plain trail", new PlainTrail()).then(Trails.ROOMY);
        Check.is(call + ", the chains ahead of it", run.answer("checksum()"), plain.answer("checksum()"));
        String got = run.answer(call);
        Check.is(call + " is taken", got.startsWith("throws "), false);
        Check.is(call, got, plain.answer(call));
        compare(call, Trails.readingOf(run, Trails.ROOMY_COUNTS), Trails.readingOf(plain, Trails.ROOMY_COUNTS));
    }

    private static void tryRefused(String call, String exception) {
        Run run = Run.of(call, Trails.ROOMY);
        Check.is(call, run.answer(call), exception);
        compare(call + " changes nothing", Trails.readingOf(run, Trails.ROOMY_COUNTS), UNTOUCHED);
    }

    private static void tryRefusedOnFull(Row row) {
        trySeveral(row, 0, row.goodValues(), row.order.indexOf(FULL), false);
    }

    /** Puts, from a place on, each value that is refused with another exception into the call, and none. */
    private static void trySeveral(Row row, int place, List<String> values, int first, boolean isRoomy) {
        if (place < values.size()) {
            trySeveral(row, place + 1, values, first, isRoomy);
            List<String> seen = new ArrayList<>();
            for (Refused refused : row.parameters.get(place).refused) {
                if (!seen.contains(refused.exception)) {
                    seen.add(refused.exception);
                    int order = Math.min(first, row.order.indexOf(refused.exception));
                    trySeveral(row, place + 1, with(values, place, refused.value), order, isRoomy);
                }
            }
        } else if (!isRoomy) {
            String call = callOf(row, values);
            Run run = Run.of(call + " on the full trail", Trails.FULL);
            Check.is(call + " on the full trail", run.answer(call), row.order.get(first));
            List<String> reading = Trails.readingOf(run, Trails.FULL_COUNTS);
            compare(call + " on the full trail changes nothing", reading, UNTOUCHED_FULL);
        } else if (first < row.order.size()) {
            tryRefused(callOf(row, values), row.order.get(first));
        }
    }

    private static List<String> readingBehind(String text, int[] counts) {
        return Trails.readingOf(Run.of("untouched", text), counts);
    }

    private static List<String> with(List<String> values, int place, String value) {
        List<String> changed = new ArrayList<>(values);
        changed.set(place, value);
        return changed;
    }

    private static String callOf(Row row, List<String> values) {
        return row.name + "(" + String.join(", ", values) + ")";
    }

    private static void compare(String title, List<String> got, List<String> due) {
        for (int index = 0; index < due.size(); index++) {
            if (!got.get(index).equals(due.get(index))) {
                Check.is(title, got.get(index), due.get(index));
                return;
            }
        }
        Check.is(title, got.size(), due.size());
    }
}
