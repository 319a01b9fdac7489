/**
 * A bee yard's columns, as ../shared/DOC.md promises them.
 *
 * Every number is kept as the long by which it is told. Floats and doubles are therefore kept and
 * reckoned by their bits: LANGUAGE.md leaves no way from a double to its bits, and no NaN.
 */
public final class HiveColumns {
    public static final int NONE = -1, UNKNOWN = -1001, OUTSIDE = -1002, FULL = -1003;

    private static final int COLUMN_LIMIT = 16, PLACE_LIMIT = 24, HIVE_LIMIT = 30;
    private static final int HIGHEST_STORE = 1000000;

    private static final int NO_CAUSE = 0, NOTHING = 1, MISFIT = 2, PLACE = 3, CAUSE_LIMIT = 4;

    private static final int TRUTHS = 0, BYTES = 1, SHORTS = 2, CHARS = 3, INTS = 4, LONGS = 5,
            FLOATS = 6, DOUBLES = 7;
    private static final int STANDS = 8, WARM_STANDS = 9, SHEETS = 10, A_HIVE = 11, EMPTY = 12;

    private final Held[] columns = new Held[COLUMN_LIMIT];
    private final Hive[] hives = new Hive[HIVE_LIMIT];
    private final int[] failures = new int[CAUSE_LIMIT];
    private int hiveCount = 0;
    private int latestCause = NO_CAUSE;

    public HiveColumns() {
    }

    // ---- what columns hold ----

    public int hold(int column, int sort, int n) {
        if (!isColumn(column)) {
            return UNKNOWN;
        }
        if (sort == EMPTY) {
            columns[column] = null;
            return 1;
        }
        if (sort < TRUTHS || sort > SHEETS || n < 0 || n > PLACE_LIMIT) {
            return OUTSIDE;
        }
        columns[column] = sort <= DOUBLES ? new NumberRow(sort, n) : new ThingRow(sort, n);
        return 1;
    }

    public int share(int column, int from) {
        if (!isColumn(column) || !isColumn(from)) {
            return UNKNOWN;
        }
        columns[column] = columns[from];
        return 1;
    }

    public int keep(int column, int hive) {
        if (!isColumn(column) || !isHive(hive)) {
            return UNKNOWN;
        }
        columns[column] = hives[hive];
        return 1;
    }

    public int hive(int store, boolean warm) {
        if (store < 0 || store > HIGHEST_STORE) {
            return OUTSIDE;
        }
        int number = hiveCount;
        if (number < 0 || number >= hives.length) {
            return FULL;
        }
        hives[number] = new Hive(number, store, warm);
        hiveCount = number + 1;
        return number;
    }

    public int places(int column) {
        if (!isColumn(column)) {
            return UNKNOWN;
        }
        Held held = columns[column];
        if (held == null) {
            return fail(NOTHING);
        }
        if (held instanceof Row row) {
            return succeed(row.size());
        }
        return fail(MISFIT);
    }

    // ---- clerks ----

    public int enter(int clerk, int column, int i, long bits) {
        if (!isKind(clerk) || !isColumn(column)) {
            return UNKNOWN;
        }
        Held held = columns[column];
        if (held == null) {
            return fail(NOTHING);
        }
        if (held instanceof NumberRow row) {
            return settle(row.take(i, clerk, Numbers.fromBits(clerk, bits)));
        }
        return fail(MISFIT);
    }

    public long tell(int clerk, int column, int i) {
        if (!isKind(clerk) || !isColumn(column)) {
            return UNKNOWN;
        }
        Held held = columns[column];
        if (held == null) {
            return fail(NOTHING);
        }
        if (held instanceof NumberRow row) {
            return tellPlace(clerk, row, i);
        }
        return fail(MISFIT);
    }

    private long tellPlace(int clerk, NumberRow row, int i) {
        if (!row.has(i)) {
            return fail(PLACE);
        }
        if (!Numbers.goesInto(row.kind, clerk)) {
            return fail(MISFIT);
        }
        succeed(1);
        return row.toldBy(clerk, i);
    }

    // ---- from column to column ----

    public int pass(int from, int i, int to, int k) {
        if (!isColumn(from) || !isColumn(to)) {
            return UNKNOWN;
        }
        Held held = columns[from];
        if (held == null) {
            return fail(NOTHING);
        }
        if (held instanceof Row row) {
            return settle(row.has(i) ? passValue(row, i, columns[to], k) : PLACE);
        }
        return fail(MISFIT);
    }

    public int copy(int from, int to) {
        if (!isColumn(from) || !isColumn(to)) {
            return UNKNOWN;
        }
        Held held = columns[from];
        if (held == null) {
            return fail(NOTHING);
        }
        if (held instanceof Row row) {
            int size = row.size();
            for (int i = 0; i < size; i++) {
                int cause = passValue(row, i, columns[to], i);
                if (cause != NO_CAUSE) {
                    int answer = fail(cause);
                    return i == 0 ? answer : i;
                }
            }
            return succeed(size);
        }
        return fail(MISFIT);
    }

    private static int passValue(Row row, int i, Held target, int k) {
        if (row instanceof NumberRow numbers) {
            return numbers.has(i) ? putNumber(target, k, numbers.kind, numbers.numbers[i]) : PLACE;
        }
        if (row instanceof ThingRow things) {
            return things.has(i) ? putThing(target, k, things.things[i]) : PLACE;
        }
        return MISFIT;
    }

    private static int putNumber(Held target, int k, int kind, long number) {
        if (target == null) {
            return NOTHING;
        }
        if (target instanceof NumberRow numbers) {
            return numbers.take(k, kind, number);
        }
        if (target instanceof Row row && !row.has(k)) {
            return PLACE;
        }
        return MISFIT;
    }

    private static int putThing(Held target, int k, Held thing) {
        if (target == null) {
            return NOTHING;
        }
        if (target instanceof ThingRow things) {
            return things.take(k, thing);
        }
        // A thing, unlike nothing, is weighed against a row of numbers only at a place that is there.
        if (target instanceof Row row && thing != null && !row.has(k)) {
            return PLACE;
        }
        return MISFIT;
    }

    // ---- hives ----

    public int stand(int column, int i, int hive) {
        if (!isColumn(column) || (hive != NONE && !isHive(hive))) {
            return UNKNOWN;
        }
        return settle(putThing(columns[column], i, isHive(hive) ? hives[hive] : null));
    }

    public int standing(int column, int i) {
        if (!isColumn(column)) {
            return UNKNOWN;
        }
        Held held = columns[column];
        int cause = causeOfHiveAt(held, i);
        if (cause != NO_CAUSE) {
            return fail(cause);
        }
        Hive hive = hiveAt(held, i);
        return succeed(hive == null ? NONE : hive.number);
    }

    public int hum(int column, int i) {
        if (!isColumn(column)) {
            return UNKNOWN;
        }
        Held held = columns[column];
        int cause = causeOfHiveAt(held, i);
        if (cause != NO_CAUSE) {
            return fail(cause);
        }
        Hive hive = hiveAt(held, i);
        return hive == null ? fail(NOTHING) : succeed(hive.loudness());
    }

    private static int causeOfHiveAt(Held held, int i) {
        if (held == null) {
            return NOTHING;
        }
        if (held instanceof Row row) {
            if (!row.has(i)) {
                return PLACE;
            }
            if (row instanceof ThingRow things && !(things.at(i) instanceof Row)) {
                return NO_CAUSE;
            }
            return MISFIT;
        }
        return NO_CAUSE;
    }

    private static Hive hiveAt(Held held, int i) {
        Held found = held instanceof ThingRow things ? things.at(i) : held;
        return found instanceof Hive hive ? hive : null;
    }

    // ---- sheets ----

    public int lay(int column, int i, int sheet) {
        if (!isColumn(column) || !isColumn(sheet)) {
            return UNKNOWN;
        }
        return settle(putThing(columns[column], i, columns[sheet]));
    }

    public long sheet(int clerk, int column, int i, int j) {
        if (!isKind(clerk) || !isColumn(column)) {
            return UNKNOWN;
        }
        Held held = columns[column];
        if (held == null) {
            return fail(NOTHING);
        }
        if (held instanceof Row row && !row.has(i)) {
            return fail(PLACE);
        }
        if (held instanceof ThingRow things) {
            return tellSheet(clerk, things.at(i), j);
        }
        return fail(MISFIT);
    }

    private long tellSheet(int clerk, Held thing, int j) {
        if (thing == null) {
            return fail(NOTHING);
        }
        if (thing instanceof NumberRow row) {
            return tellPlace(clerk, row, j);
        }
        return fail(MISFIT);
    }

    // ---- whole columns ----

    public long sum(int column, int what) {
        if (!isColumn(column)) {
            return UNKNOWN;
        }
        if (!isWhat(what)) {
            return OUTSIDE;
        }
        Held held = columns[column];
        int clerk = clerkFor(what);
        int cause = causeOfTellingAll(held, clerk);
        if (cause != NO_CAUSE) {
            return fail(cause);
        }
        succeed(1);
        return held instanceof NumberRow row ? sumOf(row, clerk) : 0;
    }

    private static long sumOf(NumberRow row, int clerk) {
        long total = 0;
        int size = row.size();
        for (int i = 0; i < size; i++) {
            long told = row.toldBy(clerk, i);
            total = clerk == DOUBLES ? Numbers.addDoubles(total, told) : total + told;
        }
        return total;
    }

    public int highest(int column, int what) {
        if (!isColumn(column)) {
            return UNKNOWN;
        }
        if (!isWhat(what)) {
            return OUTSIDE;
        }
        Held held = columns[column];
        int clerk = clerkFor(what);
        int cause = causeOfTellingAll(held, clerk);
        if (cause != NO_CAUSE) {
            return fail(cause);
        }
        return succeed(held instanceof NumberRow row ? highestOf(row, clerk) : NONE);
    }

    private static int highestOf(NumberRow row, int clerk) {
        int best = NONE;
        long bestRank = 0;
        int size = row.size();
        for (int i = 0; i < size; i++) {
            long told = row.toldBy(clerk, i);
            if (clerk == DOUBLES && Numbers.isNoDouble(told)) {
                continue;
            }
            long rank = clerk == DOUBLES ? Numbers.rankOfDouble(told) : told;
            if (best == NONE || rank >= bestRank) {
                best = i;
                bestRank = rank;
            }
        }
        return best;
    }

    private static int causeOfTellingAll(Held held, int clerk) {
        if (held == null) {
            return NOTHING;
        }
        if (held instanceof Row row && row.size() == 0) {
            return NO_CAUSE;
        }
        if (held instanceof NumberRow numbers && Numbers.goesInto(numbers.kind, clerk)) {
            return NO_CAUSE;
        }
        return MISFIT;
    }

    private static boolean isWhat(int what) {
        return what == 0 || what == 1;
    }

    private static int clerkFor(int what) {
        return what == 0 ? LONGS : DOUBLES;
    }

    public int same(int a, int b) {
        if (!isColumn(a) || !isColumn(b)) {
            return UNKNOWN;
        }
        return columns[a] == columns[b] ? 1 : 0;
    }

    public int sort(int column) {
        if (!isColumn(column)) {
            return UNKNOWN;
        }
        Held held = columns[column];
        return held == null ? EMPTY : held.sortNumber();
    }

    // ---- what was refused ----

    public int failed() {
        return latestCause;
    }

    public int count(int cause) {
        if (cause < 0 || cause >= failures.length) {
            return OUTSIDE;
        }
        return cause == 0 ? hiveCount : failures[cause];
    }

    private int settle(int cause) {
        return cause == NO_CAUSE ? succeed(1) : fail(cause);
    }

    private int succeed(int answer) {
        latestCause = NO_CAUSE;
        return answer;
    }

    private int fail(int cause) {
        latestCause = cause;
        if (cause >= 0 && cause < failures.length) {
            failures[cause]++;
        }
        return -10 - cause;
    }

    private boolean isColumn(int column) {
        return column >= 0 && column < columns.length;
    }

    private boolean isHive(int hive) {
        return hive >= 0 && hive < hiveCount && hive < hives.length;
    }

    private static boolean isKind(int kind) {
        return kind >= TRUTHS && kind <= DOUBLES;
    }

    // ---- what can be held ----

    private abstract static class Held {
        abstract int sortNumber();
    }

    private static final class Hive extends Held {
        final int number;
        final int store;
        final boolean warm;

        Hive(int number, int store, boolean warm) {
            this.number = number;
            this.store = store;
            this.warm = warm;
        }

        int sortNumber() {
            return A_HIVE;
        }

        int loudness() {
            return warm ? 2 * store + 1000 : store;
        }
    }

    private abstract static class Row extends Held {
        final int kind;

        Row(int kind) {
            this.kind = kind;
        }

        abstract int size();

        int sortNumber() {
            return kind;
        }

        final boolean has(int i) {
            return i >= 0 && i < size();
        }
    }

    private static final class NumberRow extends Row {
        final long[] numbers;

        NumberRow(int kind, int n) {
            super(kind);
            numbers = new long[n < 0 ? 0 : n];
        }

        int size() {
            return numbers.length;
        }

        int take(int i, int fromKind, long number) {
            if (i < 0 || i >= numbers.length) {
                return PLACE;
            }
            if (!Numbers.goesInto(fromKind, kind)) {
                return MISFIT;
            }
            numbers[i] = Numbers.widen(number, fromKind, kind);
            return NO_CAUSE;
        }

        long toldBy(int clerk, int i) {
            return i < 0 || i >= numbers.length ? 0 : Numbers.widen(numbers[i], kind, clerk);
        }
    }

    private static final class ThingRow extends Row {
        final Held[] things;

        ThingRow(int kind, int n) {
            super(kind);
            things = new Held[n < 0 ? 0 : n];
        }

        int size() {
            return things.length;
        }

        int take(int i, Held thing) {
            if (i < 0 || i >= things.length) {
                return PLACE;
            }
            if (thing != null && !fits(thing)) {
                return MISFIT;
            }
            things[i] = thing;
            return NO_CAUSE;
        }

        Held at(int i) {
            return i < 0 || i >= things.length ? null : things[i];
        }

        private boolean fits(Held thing) {
            if (thing instanceof Hive hive) {
                return kind == STANDS || (kind == WARM_STANDS && hive.warm);
            }
            return kind == SHEETS && thing.sortNumber() == INTS;
        }
    }

    // ---- numbers by their bits ----

    private static final class Numbers {
        /** For each kind, bit k is set if it goes into kind k. */
        private static final int[] GOES_INTO = {0x01, 0xf6, 0xf4, 0xf8, 0xf0, 0xe0, 0xc0, 0x80};

        private static final int FLOAT_FRACTION = 23, FLOAT_BIAS = 127, SMALLEST_FLOAT_POWER = -149;
        private static final int FLOAT_MAGNITUDE = 0x7fffffff, FLOAT_INFINITY = 0x7f800000;
        private static final int FLOAT_SIGN = 0x80000000, NO_FLOAT = 0x7fc00000;

        private static final int DOUBLE_FRACTION = 52, DOUBLE_BIAS = 1023;
        private static final long DOUBLE_MAGNITUDE = 0x7fffffffffffffffL;
        private static final long DOUBLE_INFINITY = 0x7ff0000000000000L;
        private static final long DOUBLE_SIGN = 0x8000000000000000L;
        private static final long NO_DOUBLE = 0x7ff8000000000000L;

        /** Bits below the last one that a sum keeps, so that it is rounded as if none were lost. */
        private static final int GUARD = 3;

        static boolean goesInto(int from, int to) {
            if (from < 0 || from >= GOES_INTO.length || to < 0 || to >= GOES_INTO.length) {
                return false;
            }
            return (GOES_INTO[from] >> to & 1) == 1;
        }

        static long fromBits(int kind, long bits) {
            switch (kind) {
                case TRUTHS:
                    return bits & 1;
                case BYTES:
                    return (byte) bits;
                case SHORTS:
                    return (short) bits;
                case CHARS:
                    return (char) bits;
                case INTS:
                    return (int) bits;
                case FLOATS:
                    return isNoFloat((int) bits) ? NO_FLOAT : (int) bits;
                case DOUBLES:
                    return isNoDouble(bits) ? NO_DOUBLE : bits;
                default:
                    return bits;
            }
        }

        static long widen(long number, int from, int to) {
            if (from == to || to < FLOATS) {
                return number;
            }
            if (from == FLOATS) {
                return floatToDouble((int) number);
            }
            if (to == DOUBLES) {
                return nearest(number, DOUBLE_FRACTION, DOUBLE_BIAS) | (number & DOUBLE_SIGN);
            }
            int magnitude = (int) nearest(number, FLOAT_FRACTION, FLOAT_BIAS);
            return number < 0 ? magnitude | FLOAT_SIGN : magnitude;
        }

        /** The bits, but for the sign, of the floating number nearest to a whole one. */
        private static long nearest(long number, int fraction, int bias) {
            if (number == 0) {
                return 0;
            }
            // The lowest long stays as it is, and is right when read without a sign.
            long size = number < 0 ? -number : number;
            int top = 63 - Long.numberOfLeadingZeros(size);
            long kept = top <= fraction ? size << (fraction - top) : roundOff(size, top - fraction);
            // The leading bit, and a carry out of rounding, add themselves to the exponent.
            return ((long) (top + bias - 1) << fraction) + kept;
        }

        private static long roundOff(long size, int lost) {
            long kept = size >>> lost;
            long rest = size & ((1L << lost) - 1);
            long half = 1L << (lost - 1);
            return rest > half || (rest == half && (kept & 1) == 1) ? kept + 1 : kept;
        }

        private static long floatToDouble(int bits) {
            if (isNoFloat(bits)) {
                return NO_DOUBLE;
            }
            long sign = bits < 0 ? DOUBLE_SIGN : 0;
            int magnitude = bits & FLOAT_MAGNITUDE;
            if (magnitude == FLOAT_INFINITY) {
                return sign | DOUBLE_INFINITY;
            }
            if (magnitude >>> FLOAT_FRACTION == 0) {
                return sign | tinyFloatToDouble(magnitude);
            }
            long rebias = (long) (DOUBLE_BIAS - FLOAT_BIAS) << DOUBLE_FRACTION;
            return sign | (((long) magnitude << (DOUBLE_FRACTION - FLOAT_FRACTION)) + rebias);
        }

        /** Floats without a leading bit are whole multiples of the smallest; as doubles all have one. */
        private static long tinyFloatToDouble(int magnitude) {
            if (magnitude == 0) {
                return 0;
            }
            int top = 31 - Integer.numberOfLeadingZeros(magnitude);
            long exponent = top + SMALLEST_FLOAT_POWER + DOUBLE_BIAS - 1;
            return (exponent << DOUBLE_FRACTION) + ((long) magnitude << (DOUBLE_FRACTION - top));
        }

        private static boolean isNoFloat(int bits) {
            return (bits & FLOAT_MAGNITUDE) > FLOAT_INFINITY;
        }

        static boolean isNoDouble(long bits) {
            return (bits & DOUBLE_MAGNITUDE) > DOUBLE_INFINITY;
        }

        /** Ranks are ordered as the doubles are; both zeros have the same one. */
        static long rankOfDouble(long bits) {
            long magnitude = bits & DOUBLE_MAGNITUDE;
            return bits < 0 ? -magnitude : magnitude;
        }

        static long addDoubles(long a, long b) {
            if (isNoDouble(a) || isNoDouble(b)) {
                return NO_DOUBLE;
            }
            boolean ordered = (a & DOUBLE_MAGNITUDE) >= (b & DOUBLE_MAGNITUDE);
            long larger = ordered ? a : b;
            long smaller = ordered ? b : a;
            if ((larger & DOUBLE_MAGNITUDE) != DOUBLE_INFINITY) {
                return addFinite(larger, smaller);
            }
            return smaller == (larger ^ DOUBLE_SIGN) ? NO_DOUBLE : larger;
        }

        private static long addFinite(long larger, long smaller) {
            int exponent = exponentOf(larger);
            long near = significandOf(larger);
            long far = shiftOff(significandOf(smaller), exponent - exponentOf(smaller));
            long total = (larger ^ smaller) < 0 ? near - far : near + far;
            if (total == 0) {
                return larger & smaller & DOUBLE_SIGN;
            }
            int room = Long.numberOfLeadingZeros(total) - (63 - DOUBLE_FRACTION - GUARD);
            if (room < 0) {
                total = shiftOff(total, 1);
                exponent++;
            } else {
                int shift = Math.min(room, exponent - 1);
                total <<= shift;
                exponent -= shift;
            }
            long size = ((long) (exponent - 1) << DOUBLE_FRACTION) + roundOff(total, GUARD);
            return Math.min(size, DOUBLE_INFINITY) | (larger & DOUBLE_SIGN);
        }

        private static int exponentOf(long bits) {
            return Math.max(1, (int) ((bits & DOUBLE_MAGNITUDE) >>> DOUBLE_FRACTION));
        }

        private static long significandOf(long bits) {
            long leading = 1L << DOUBLE_FRACTION;
            long fraction = bits & (leading - 1);
            boolean tiny = (bits & DOUBLE_INFINITY) == 0;
            return (tiny ? fraction : fraction | leading) << GUARD;
        }

        /** Shifts right; the last bit tells whether anything was lost, so that halves stay known. */
        private static long shiftOff(long size, int shift) {
            if (shift <= 0) {
                return size;
            }
            if (shift > 62) {
                return size == 0 ? 0 : 1;
            }
            long lost = size & ((1L << shift) - 1);
            return lost == 0 ? size >>> shift : size >>> shift | 1;
        }
    }
}
