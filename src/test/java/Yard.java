/**
 * The yard at whose edges the tests stand: a column of each sort with three places, hives, and calls
 * that failed before. Its column numbers are the sorts that they hold.
 */
final class Yard {
    static final int NONE = -1, UNKNOWN = -1001, OUTSIDE = -1002, FULL = -1003;
    static final int NOTHING = -11, MISFIT = -12, PLACE = -13;
    static final int LOWEST = Integer.MIN_VALUE, HIGHEST = Integer.MAX_VALUE;

    static final int TRUTHS = 0, BYTES = 1, SHORTS = 2, CHARS = 3, INTS = 4, LONGS = 5, FLOATS = 6, DOUBLES = 7;
    static final int STANDS = 8, WARM_STANDS = 9, SHEETS = 10, HIVE = 11, EMPTY = 12;
    /** Columns of more: a warm hive, the very row of INTS, a row of ints without places. */
    static final int WARM_HIVE = 13, SHARED = 14, BARE = 15;

    /** The hives: one of store 7, a warm one of store 9. */
    static final int COOL = 0, WARM = 1;

    /** What is no column, no place of three: the first ones on either side, and the farthest. */
    static final int[] NO_COLUMNS = {LOWEST, -1, 16, HIGHEST};
    static final int[] NO_PLACES = {LOWEST, -1, 3, HIGHEST};
    static final int[] NO_CLERKS = {LOWEST, -1, 8, HIGHEST};

    static final long ONE = 0x3ff0000000000000L, TWO = 0x4000000000000000L;
    static final int FLOAT_ONE = 0x3f800000, FLOAT_TWO = 0x40000000;

    interface Call {
        long on(HiveColumns x);
    }

    private Yard() {
    }

    static HiveColumns make() {
        HiveColumns x = new HiveColumns();
        x.hive(7, false);
        x.hive(9, true);
        for (int sort = TRUTHS; sort <= SHEETS; sort++) {
            x.hold(sort, sort, 3);
        }
        for (int kind = TRUTHS; kind <= DOUBLES; kind++) {
            x.enter(kind, kind, 0, kind == DOUBLES ? ONE : kind == FLOATS ? FLOAT_ONE : 1);
            x.enter(kind, kind, 2, kind == DOUBLES ? TWO : kind == FLOATS ? FLOAT_TWO : kind == TRUTHS ? 1 : 2);
        }
        x.stand(STANDS, 0, COOL);
        x.stand(STANDS, 1, WARM);
        x.stand(WARM_STANDS, 0, WARM);
        x.lay(SHEETS, 0, INTS);
        x.keep(HIVE, COOL);
        x.keep(WARM_HIVE, WARM);
        x.share(SHARED, INTS);
        x.hold(BARE, INTS, 0);
        return x;
    }

    /** Another count of each cause, and a latest one (0: none). */
    static HiveColumns makeWithFailures(int latest) {
        HiveColumns x = make();
        for (int cause = 1; cause <= 3; cause++) {
            for (int n = 0; n < 2 * cause; n++) {
                failBy(x, cause);
            }
        }
        failBy(x, latest);
        return x;
    }

    static void failBy(HiveColumns x, int cause) {
        switch (cause) {
            case 0: x.places(INTS); break;
            case 1: x.places(EMPTY); break;
            case 2: x.places(HIVE); break;
            default: x.tell(INTS, INTS, 3); break;
        }
    }

    /** The call is refused, whatever failed before; it changes nothing and is not counted. */
    static void refuses(String sentence, long answer, Call call) {
        for (int latest = 0; latest <= 3; latest++) {
            HiveColumns x = makeWithFailures(latest);
            Due.is(sentence, call.on(x), answer);
            Due.alike(sentence + ": what was counted", tally(x), tallyDue(latest, latest, 0));
            Due.alike(sentence + ": what is held", contents(x), contents(make()));
        }
    }

    /** The call answers by a cause, which is counted once; it changes nothing else. */
    static void fails(String sentence, long answer, Call call) {
        int cause = (int) (-10 - answer);
        int latest = cause % 3 + 1;
        HiveColumns x = makeWithFailures(latest);
        Due.is(sentence, call.on(x), answer);
        Due.alike(sentence + ": what was counted", tally(x), tallyDue(cause, latest, cause));
        Due.alike(sentence + ": what is held", contents(x), contents(make()));
    }

    /** The call answers, and is one that did not fail: none is counted, failed() tells 0. */
    static void succeeds(String sentence, long answer, Call call) {
        for (int latest = 1; latest <= 3; latest++) {
            HiveColumns x = makeWithFailures(latest);
            Due.is(sentence, call.on(x), answer);
            Due.alike(sentence + ": what was counted", tally(x), tallyDue(0, latest, 0));
        }
    }

    /** The tally of makeWithFailures(latest), and of one call more that failed by a cause (0: by none). */
    private static String tallyDue(int failed, int latest, int more) {
        StringBuilder due = new StringBuilder("failed() " + failed + ", count() 2");
        for (int cause = 1; cause <= 3; cause++) {
            due.append(" ").append(2 * cause + (latest == cause ? 1 : 0) + (more == cause ? 1 : 0));
        }
        return due.toString();
    }

    static String tally(HiveColumns x) {
        return "failed() " + x.failed() + ", count() " + x.count(0) + " " + x.count(1) + " " + x.count(2) + " " + x.count(3);
    }

    /** All that columns hold and which of them hold the same; to be asked last, as asking may fail. */
    static String contents(HiveColumns x) {
        StringBuilder all = new StringBuilder();
        for (int column = 0; column < 16; column++) {
            int sort = x.sort(column), alike = 0;
            while (x.same(alike, column) == 0) {
                alike++;
            }
            all.append(column).append(": ").append(sort).append(" as ").append(alike);
            int places = sort <= SHEETS ? x.places(column) : 1;
            for (int i = 0; i < places; i++) {
                all.append(i == 0 ? " [" : " ").append(place(x, sort, column, i));
            }
            all.append(places > 0 ? "]; " : "; ");
        }
        return all.toString();
    }

    private static String place(HiveColumns x, int sort, int column, int i) {
        if (sort <= DOUBLES) {
            return Long.toString(x.tell(sort, column, i));
        }
        if (sort == SHEETS) {
            return x.sheet(INTS, column, i, 0) + "/" + x.sheet(INTS, column, i, 2);
        }
        return x.standing(column, i) + "/" + x.hum(column, i);
    }
}
