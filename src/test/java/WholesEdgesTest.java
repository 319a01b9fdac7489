/** The edges that promises 16 to 21 name, a test for each sentence. */
public final class WholesEdgesTest {
    private static final int NONE = Yard.NONE, UNKNOWN = Yard.UNKNOWN, OUTSIDE = Yard.OUTSIDE;
    private static final int NOTHING = Yard.NOTHING, MISFIT = Yard.MISFIT;
    private static final int LOWEST = Yard.LOWEST, HIGHEST = Yard.HIGHEST;
    private static final int TRUTHS = 0, BYTES = 1, SHORTS = 2, CHARS = 3, INTS = 4, LONGS = 5, FLOATS = 6, DOUBLES = 7;
    private static final int STANDS = 8, WARM_STANDS = 9, SHEETS = 10, HIVE = 11, EMPTY = 12, WARM_HIVE = 13;
    private static final int SHARED = 14, BARE = 15, COOL = 0, WARM = 1;

    private static final long ONE = Yard.ONE, TWO = Yard.TWO, MINUS = Long.MIN_VALUE;
    private static final long ENDLESS = 0x7ff0000000000000L, MINUS_ENDLESS = 0xfff0000000000000L;
    private static final long NO_NUMBER = 0x7ff8000000000000L, LARGEST = 0x7fefffffffffffffL;
    private static final int[] NO_WHATS = {LOWEST, -1, 2, HIGHEST};

    public static void main(String[] args) {
        sumWrapping();
        sumAsToldByLongs();
        sumAsToldByDoubles();
        sumFromZeroOn();
        sumInOrder();
        sumOfNoNumber();
        sumThatWouldBeNone();
        sumAtTheEnds();
        sumWithoutPlaces();
        sumCauses();
        highestLastPlace();
        highestByLongsOrDoubles();
        highestOfZeros();
        highestPassesOverNoNumber();
        highestWithoutPlaces();
        highestCauses();
        outsideOfWhat();
        sameRowOrHive();
        nothingBoth();
        sortOfEach();
        failedAfterEachCause();
        failedAfterRefusals();
        failedAfterCallsThatCannotFail();
        countOfCauses();
        countOutside();
        longestRun();
        Due.end();
    }

    /** A new object whose column 0 is a row of these values. */
    private static HiveColumns row(int kind, long... bits) {
        HiveColumns x = new HiveColumns();
        x.hold(0, kind, bits.length);
        for (int i = 0; i < bits.length; i++) {
            x.enter(kind, 0, i, bits[i]);
        }
        return x;
    }

    private static void sums(String sentence, int what, long due, int kind, long... bits) {
        HiveColumns x = row(kind, bits);
        x.places(1);
        Due.is(sentence, x.sum(0, what), due);
        Due.alike(sentence + ": counted", Yard.tally(x), "failed() 0, count() 0 1 0 0");
    }

    private static long[] filled(int n, long bits) {
        long[] all = new long[n];
        java.util.Arrays.fill(all, bits);
        return all;
    }

    private static void sumWrapping() {
        String sentence = "16 'wrapping'";
        long lowest = Long.MIN_VALUE, highest = Long.MAX_VALUE;
        sums(sentence, 0, highest, LONGS, highest - 1, 1);
        sums(sentence, 0, lowest, LONGS, highest, 1);
        sums(sentence, 0, lowest, LONGS, lowest + 1, -1);
        sums(sentence, 0, highest, LONGS, lowest, -1);
        sums(sentence, 0, 0, LONGS, lowest, lowest);
        sums(sentence, 0, -2, LONGS, highest, highest);
        sums(sentence, 0, -1, LONGS, lowest, highest);
        sums(sentence, 0, -24, LONGS, filled(24, highest));
        sums(sentence, 0, 0, LONGS, filled(24, lowest));
    }

    private static void sumAsToldByLongs() {
        String sentence = "16 'as the CLERK of longs tells them'";
        sums(sentence, 0, 24 * -128, BYTES, filled(24, -128));
        sums(sentence, 0, 24 * -32768, SHORTS, filled(24, -32768));
        sums(sentence, 0, 24 * 65535, CHARS, filled(24, -1));
        sums(sentence, 0, 24L * -2147483648L, INTS, filled(24, LOWEST));
        sums(sentence, 0, 24L * 2147483647L, INTS, filled(24, HIGHEST));
        sums(sentence, 0, 7, LONGS, 7);
        sums(sentence + ", one like a failure", 0, NOTHING, LONGS, -10, -1);
    }

    private static void sumAsToldByDoubles() {
        String sentence = "16 'the CLERK of doubles, by BITS'";
        sums(sentence, 1, 0xbff0000000000000L, BYTES, 255);
        sums(sentence, 1, 0xc0f0000000000000L, SHORTS, -32768, -32768);
        sums(sentence, 1, 0x40efffe000000000L, CHARS, -1);
        sums(sentence, 1, 0x41e0000000000000L, INTS, HIGHEST, 1);
        sums(sentence, 1, 0xc1f0000000000000L, INTS, LOWEST, LOWEST);
        sums(sentence + ", each the nearest", 1, 0x43f0000000000000L, LONGS, Long.MAX_VALUE, Long.MAX_VALUE);
        sums(sentence + ", not wrapping", 1, 0xc3f0000000000000L, LONGS, Long.MIN_VALUE, Long.MIN_VALUE);
        sums(sentence, 1, 0x4008000000000000L, FLOATS, Yard.FLOAT_ONE, Yard.FLOAT_TWO);
        sums(sentence + ", not as floats", 1, 0x4170000010000000L, FLOATS, 0x4b800000, Yard.FLOAT_ONE);
        sums(sentence, 1, 0x4008000000000000L, DOUBLES, ONE, TWO);
    }

    private static void sumFromZeroOn() {
        String sentence = "16 'from 0.0 on'";
        sums(sentence, 1, 0, DOUBLES, MINUS);
        sums(sentence, 1, 0, DOUBLES, filled(24, MINUS));
        sums(sentence, 1, 0, DOUBLES, MINUS, 0);
        sums(sentence, 1, 0, FLOATS, 0x80000000L);
        sums(sentence, 1, 0, DOUBLES, ONE, ONE | MINUS);
        sums(sentence, 1, 0, DOUBLES, ONE | MINUS, ONE, MINUS);
        sums(sentence, 1, ONE, DOUBLES, ONE);
    }

    private static void sumInOrder() {
        String sentence = "16 'in order'";
        long large = 0x4340000000000000L;
        sums(sentence, 1, 0, DOUBLES, large, ONE, large | MINUS);
        sums(sentence, 1, ONE, DOUBLES, large, large | MINUS, ONE);
        sums(sentence, 1, large, DOUBLES, large, ONE, ONE);
        sums(sentence, 1, large + 1, DOUBLES, ONE, ONE, large);
        sums(sentence, 1, ENDLESS, DOUBLES, LARGEST, LARGEST, LARGEST | MINUS);
        sums(sentence, 1, LARGEST, DOUBLES, LARGEST, LARGEST | MINUS, LARGEST);
    }

    private static void sumOfNoNumber() {
        String sentence = "16 'NO NUMBER, if one is'";
        for (int at = 0; at < 24; at++) {
            for (long none : new long[] {NO_NUMBER, ENDLESS + 1, Long.MAX_VALUE, MINUS_ENDLESS + 1, -1}) {
                long[] bits = filled(24, ONE);
                bits[at] = none;
                sums(sentence + ", place " + at, 1, NO_NUMBER, DOUBLES, bits);
            }
            long[] bits = filled(24, Yard.FLOAT_ONE);
            bits[at] = 0xffffffffL;
            sums(sentence + ", place " + at + " of floats", 1, NO_NUMBER, FLOATS, bits);
        }
        sums(sentence + ", alone", 1, NO_NUMBER, DOUBLES, NO_NUMBER);
        sums(sentence + ", with ones without end", 1, NO_NUMBER, DOUBLES, ENDLESS, -1, ENDLESS);
    }

    private static void sumThatWouldBeNone() {
        String sentence = "16 'or where it would be none'";
        sums(sentence, 1, NO_NUMBER, DOUBLES, ENDLESS, MINUS_ENDLESS);
        sums(sentence, 1, NO_NUMBER, DOUBLES, MINUS_ENDLESS, ENDLESS);
        sums(sentence, 1, NO_NUMBER, DOUBLES, ENDLESS, ONE, MINUS_ENDLESS, ONE);
        sums(sentence, 1, NO_NUMBER, DOUBLES, LARGEST, LARGEST, MINUS_ENDLESS);
        sums(sentence, 1, NO_NUMBER, FLOATS, 0x7f800000, 0xff800000);
        sums(sentence + ", but this is one", 1, ENDLESS, DOUBLES, ENDLESS, ENDLESS);
        sums(sentence + ", but this is one", 1, MINUS_ENDLESS, DOUBLES, MINUS_ENDLESS, ONE, MINUS_ENDLESS);
        sums(sentence + ", but this is one", 1, ENDLESS, DOUBLES, LARGEST | MINUS, ENDLESS);
    }

    private static void sumAtTheEnds() {
        String sentence = "16 'The sum', at the ends of doubles";
        long halfOfLast = 0x7c90000000000000L;
        sums(sentence, 1, LARGEST, DOUBLES, LARGEST, halfOfLast - 1);
        sums(sentence, 1, ENDLESS, DOUBLES, LARGEST, halfOfLast);
        sums(sentence, 1, MINUS_ENDLESS, DOUBLES, LARGEST | MINUS, halfOfLast | MINUS);
        sums(sentence, 1, 2, DOUBLES, 1, 1);
        sums(sentence, 1, 0x0010000000000000L, DOUBLES, 0x000fffffffffffffL, 1);
        sums(sentence, 1, 0x000fffffffffffffL, DOUBLES, 0x0010000000000000L, 1 | MINUS);
        sums(sentence, 1, 1 | MINUS, DOUBLES, 1, 2 | MINUS);
        sums(sentence + ", a half to the even", 1, ONE, DOUBLES, ONE, 0x3ca0000000000000L);
        sums(sentence + ", above a half", 1, ONE + 1, DOUBLES, ONE, 0x3ca0000000000001L);
        sums(sentence + ", a half to the even", 1, ONE + 2, DOUBLES, ONE + 1, 0x3ca0000000000000L);
    }

    private static void sumWithoutPlaces() {
        for (int sort = TRUTHS; sort <= SHEETS; sort++) {
            for (int what = 0; what <= 1; what++) {
                HiveColumns x = row(sort);
                x.places(1);
                Due.is("16 'any ROW without places sums to 0', " + sort, x.sum(0, what), 0);
                Due.alike("16 without places: counted", Yard.tally(x), "failed() 0, count() 0 1 0 0");
            }
        }
    }

    private static void sumCauses() {
        for (int what = 0; what <= 1; what++) {
            int each = what;
            Yard.fails("16 'NOTHING'", NOTHING, x -> x.sum(EMPTY, each));
            for (int held : new int[] {TRUTHS, STANDS, WARM_STANDS, SHEETS, HIVE, WARM_HIVE}) {
                Yard.fails("16 'MISFIT', " + held, MISFIT, x -> x.sum(held, each));
            }
            for (int kind = BYTES; kind <= LONGS; kind++) {
                int held = kind;
                Yard.succeeds("16 none, " + held, what == 0 ? 3 : 0x4008000000000000L, x -> x.sum(held, each));
            }
        }
        for (int kind : new int[] {FLOATS, DOUBLES}) {
            Yard.fails("16 'MISFIT', by longs", MISFIT, x -> x.sum(kind, 0));
            Yard.succeeds("16 none, by doubles", 0x4008000000000000L, x -> x.sum(kind, 1));
        }
        for (int sort : new int[] {TRUTHS, STANDS, WARM_STANDS, SHEETS}) {
            Due.is("16 'MISFIT', of one place", row(sort, 0).sum(0, 0), MISFIT);
            Due.is("16 'MISFIT', of one place", row(sort, 0).sum(0, 1), MISFIT);
        }
    }

    private static void tops(String sentence, int what, int due, int kind, long... bits) {
        HiveColumns x = row(kind, bits);
        x.places(1);
        Due.is(sentence, x.highest(0, what), due);
        Due.alike(sentence + ": counted", Yard.tally(x), "failed() 0, count() 0 1 0 0");
    }

    private static void highestLastPlace() {
        String sentence = "17 'The last place'";
        tops(sentence, 0, 0, LONGS, 5);
        tops(sentence, 0, 1, LONGS, 5, 5);
        tops(sentence, 0, 2, LONGS, 5, 4, 5);
        tops(sentence, 0, 1, LONGS, 5, 5, 4);
        tops(sentence, 0, 0, LONGS, 5, 4, 4);
        tops(sentence, 0, 0, LONGS, 0, -1, -2);
        tops(sentence, 1, 0, DOUBLES, 0, 1 | MINUS, ONE | MINUS);
        tops(sentence, 1, 2, DOUBLES, TWO, ONE, TWO);
        tops(sentence, 1, 1, DOUBLES, TWO, TWO, ONE);
        tops(sentence, 1, 1, DOUBLES, ENDLESS, ENDLESS, LARGEST);
        tops(sentence, 1, 1, DOUBLES, MINUS_ENDLESS, MINUS_ENDLESS);
        for (int at = 0; at < 24; at++) {
            long[] bits = filled(24, -9);
            bits[0] = 3;
            bits[at] = 3;
            tops(sentence + ", of 24", 0, at, LONGS, bits);
            tops(sentence + ", of 24", 1, at, INTS, bits);
            tops(sentence + ", of 24 alike", 0, at, LONGS, filled(at + 1, Long.MIN_VALUE));
        }
    }

    private static void highestByLongsOrDoubles() {
        String sentence = "17 'told by the CLERK of longs (what = 0) or doubles (1)'";
        tops(sentence, 0, 1, LONGS, Long.MIN_VALUE, Long.MAX_VALUE, Long.MAX_VALUE - 1);
        tops(sentence, 1, 2, LONGS, Long.MIN_VALUE, Long.MAX_VALUE, Long.MAX_VALUE - 1);
        tops(sentence, 0, 0, LONGS, (1L << 53) + 1, 1L << 53);
        tops(sentence, 1, 1, LONGS, (1L << 53) + 1, 1L << 53);
        tops(sentence, 0, 0, LONGS, Long.MIN_VALUE + 1, Long.MIN_VALUE);
        tops(sentence, 1, 1, LONGS, Long.MIN_VALUE + 1, Long.MIN_VALUE);
        tops(sentence, 0, 1, CHARS, 0x7fff, 0xffff, 0x8000);
        tops(sentence, 0, 0, SHORTS, 0x7fff, 0xffff, 0x8000);
        tops(sentence, 0, 0, BYTES, 0x7f, 0xff, 0x80);
        tops(sentence, 1, 0, INTS, HIGHEST, HIGHEST - 1, LOWEST);
        tops(sentence, 1, 1, FLOATS, 0xbf800000, 1, 0x80000001L);
        tops(sentence, 1, 0, DOUBLES, 1 | MINUS, 2 | MINUS, MINUS_ENDLESS);
        tops(sentence, 1, 1, DOUBLES, LARGEST, ENDLESS, LARGEST);
        tops(sentence, 1, 0, DOUBLES, LARGEST | MINUS, MINUS_ENDLESS);
    }

    private static void highestOfZeros() {
        String sentence = "17 '0.0 is not below -0.0'";
        tops(sentence, 1, 1, DOUBLES, MINUS, 0);
        tops(sentence + ", nor -0.0 below 0.0", 1, 1, DOUBLES, 0, MINUS);
        tops(sentence, 1, 2, DOUBLES, MINUS, MINUS, 0, 1 | MINUS);
        tops(sentence + ", nor -0.0 below 0.0", 1, 2, DOUBLES, 0, 0, MINUS, 1 | MINUS);
        tops(sentence, 1, 1, FLOATS, 0x80000000L, 0);
        tops(sentence + ", nor -0.0 below 0.0", 1, 1, FLOATS, 0, 0x80000000L);
        tops(sentence + ", but below the smallest", 1, 0, DOUBLES, 1, 0, MINUS);
        tops(sentence + ", and above the first below", 1, 0, DOUBLES, MINUS, 1 | MINUS);
    }

    private static void highestPassesOverNoNumber() {
        String sentence = "17 'NO NUMBER is passed over'";
        tops(sentence, 1, 1, DOUBLES, NO_NUMBER, MINUS_ENDLESS);
        tops(sentence, 1, 0, DOUBLES, MINUS_ENDLESS, NO_NUMBER);
        tops(sentence, 1, 1, DOUBLES, NO_NUMBER, ONE, NO_NUMBER, MINUS);
        tops(sentence, 1, 3, DOUBLES, ONE, NO_NUMBER, MINUS, TWO, -1);
        tops(sentence, 1, 0, DOUBLES, ENDLESS, NO_NUMBER);
        tops(sentence, 1, 1, FLOATS, 0x7fc00000, 0xff800000, 0xffffffffL);
        for (int n : new int[] {1, 2, 24}) {
            tops("17 'NONE: all are', of " + n, 1, NONE, DOUBLES, filled(n, NO_NUMBER));
            tops("17 'NONE: all are', of " + n, 1, NONE, DOUBLES, filled(n, -1));
            tops("17 'NONE: all are', floats, of " + n, 1, NONE, FLOATS, filled(n, 0x7f800001));
            for (int at = 0; at < n; at++) {
                long[] bits = filled(n, NO_NUMBER);
                bits[at] = MINUS_ENDLESS;
                tops("17 'NONE: all are', but one of " + n, 1, at, DOUBLES, bits);
            }
        }
    }

    private static void highestWithoutPlaces() {
        for (int sort = TRUTHS; sort <= SHEETS; sort++) {
            tops("17 'NONE: no places', by longs, " + sort, 0, NONE, sort);
            tops("17 'NONE: no places', by doubles, " + sort, 1, NONE, sort);
        }
    }

    private static void highestCauses() {
        for (int what = 0; what <= 1; what++) {
            int each = what;
            Yard.fails("17 'NOTHING'", NOTHING, x -> x.highest(EMPTY, each));
            for (int held : new int[] {TRUTHS, STANDS, WARM_STANDS, SHEETS, HIVE, WARM_HIVE}) {
                Yard.fails("17 'MISFIT', " + held, MISFIT, x -> x.highest(held, each));
            }
            for (int kind = BYTES; kind <= LONGS; kind++) {
                int held = kind;
                Yard.succeeds("17 none, " + held, 2, x -> x.highest(held, each));
            }
        }
        for (int kind : new int[] {FLOATS, DOUBLES}) {
            Yard.fails("17 'MISFIT', by longs", MISFIT, x -> x.highest(kind, 0));
            Yard.succeeds("17 none, by doubles", 2, x -> x.highest(kind, 1));
        }
        Due.is("17 'MISFIT (not of a ROW without places)', one place", row(STANDS, 0).highest(0, 0), MISFIT);
        Due.is("17 'MISFIT (not of a ROW without places)', one place", row(TRUTHS, 0).highest(0, 1), MISFIT);
    }

    private static void outsideOfWhat() {
        for (int what : NO_WHATS) {
            for (int held : new int[] {TRUTHS, INTS, DOUBLES, STANDS, HIVE, EMPTY, BARE}) {
                Yard.refuses("16 'OUTSIDE', " + what, OUTSIDE, x -> x.sum(held, what));
                Yard.refuses("17 'OUTSIDE', " + what, OUTSIDE, x -> x.highest(held, what));
            }
        }
    }

    private static void sameRowOrHive() {
        HiveColumns x = Yard.make();
        for (int a = 0; a <= 15; a++) {
            for (int b = 0; b <= 15; b++) {
                boolean same = a == b || (a == INTS && b == SHARED) || (a == SHARED && b == INTS);
                Due.is("18 'the very same ROW or HIVE', " + a + ", " + b, x.same(a, b), same ? 1 : 0);
            }
        }
        x.hold(SHARED, INTS, 0);
        Due.is("18 'the very same ROW', two without places", x.same(SHARED, BARE), 0);
        x.keep(SHARED, COOL);
        Due.is("18 'the very same HIVE', kept twice", x.same(SHARED, HIVE), 1);
        x.share(SHARED, WARM_HIVE);
        Due.is("18 'the very same HIVE', shared", x.same(SHARED, WARM_HIVE), 1);
        Due.is("18 'the very same HIVE', two", x.same(SHARED, HIVE), 0);
        int third = x.hive(7, false);
        x.keep(SHARED, third);
        Due.is("18 'the very same HIVE', two alike", x.same(SHARED, HIVE), 0);
    }

    private static void nothingBoth() {
        HiveColumns x = new HiveColumns();
        for (int a = 0; a <= 15; a++) {
            for (int b = 0; b <= 15; b++) {
                Due.is("18 'or nothing both', " + a + ", " + b, x.same(a, b), 1);
            }
        }
        x = Yard.make();
        x.hold(INTS, 12, 0);
        x.share(LONGS, EMPTY);
        Due.is("18 'or nothing both', held no more", x.same(INTS, LONGS), 1);
        for (int column : new int[] {TRUTHS, STANDS, SHEETS, HIVE, BARE}) {
            Due.is("18 'or nothing both', one alone", x.same(EMPTY, column), 0);
            Due.is("18 'or nothing both', one alone", x.same(column, EMPTY), 0);
        }
        for (int column : Yard.NO_COLUMNS) {
            Yard.refuses("18 'UNKNOWN'", UNKNOWN, y -> y.same(column, EMPTY));
            Yard.refuses("18 'UNKNOWN'", UNKNOWN, y -> y.same(EMPTY, column));
        }
    }

    private static void sortOfEach() {
        HiveColumns x = Yard.make();
        for (int sort = TRUTHS; sort <= SHEETS; sort++) {
            Due.is("19 '0 .. 10 a ROW'", x.sort(sort), sort);
            x.hold(BARE, sort, 0);
            Due.is("19 '0 .. 10 a ROW', without places", x.sort(BARE), sort);
        }
        Due.is("19 '11 a HIVE'", x.sort(HIVE), 11);
        Due.is("19 '11 a HIVE', a WARM one", x.sort(WARM_HIVE), 11);
        Due.is("19 '12 nothing'", x.sort(EMPTY), 12);
        x.hold(HIVE, 12, 5);
        Due.is("19 '12 nothing', held no more", x.sort(HIVE), 12);
        for (int column : Yard.NO_COLUMNS) {
            Yard.refuses("19 'UNKNOWN'", UNKNOWN, y -> y.sort(column));
        }
    }

    /** Each call that may fail by a cause, as it does not fail in the yard. */
    private static final Yard.Call[] GOOD = {
        x -> x.places(INTS), x -> x.enter(INTS, INTS, 0, 1), x -> x.tell(INTS, INTS, 0),
        x -> x.pass(INTS, 0, LONGS, 0), x -> x.copy(INTS, LONGS), x -> x.copy(BARE, EMPTY),
        x -> x.stand(STANDS, 0, COOL), x -> x.stand(SHEETS, 0, NONE), x -> x.standing(STANDS, 0),
        x -> x.standing(STANDS, 2), x -> x.standing(HIVE, 9), x -> x.hum(STANDS, 0), x -> x.hum(HIVE, 9),
        x -> x.lay(SHEETS, 0, INTS), x -> x.lay(SHEETS, 0, EMPTY), x -> x.sheet(INTS, SHEETS, 0, 0),
        x -> x.sum(INTS, 0), x -> x.sum(DOUBLES, 1), x -> x.sum(BARE, 0), x -> x.highest(INTS, 0),
        x -> x.highest(DOUBLES, 1), x -> x.highest(BARE, 0),
    };

    private static void failedAfterEachCause() {
        for (int cause = 1; cause <= 3; cause++) {
            for (int n = 0; n < GOOD.length; n++) {
                HiveColumns x = Yard.make();
                Due.is("20 '0: it did not', at first", x.failed(), 0);
                Yard.failBy(x, cause);
                Due.is("20 'The CAUSE by which the latest call failed'", x.failed(), cause);
                Due.is("20 asked again", x.failed(), cause);
                GOOD[n].on(x);
                Due.is("20 '0: it did not', call " + n + " of GOOD", x.failed(), 0);
                Due.is("20 counted yet", x.count(cause), 1);
            }
        }
        Due.is("20 '0: it did not', of a new object", new HiveColumns().failed(), 0);
    }

    private static void failedAfterRefusals() {
        Yard.Call[] refused = {
            x -> x.places(16), x -> x.enter(8, INTS, 0, 1), x -> x.enter(INTS, -1, 0, 1), x -> x.tell(-1, INTS, 0),
            x -> x.tell(INTS, 16, 0), x -> x.pass(16, 0, INTS, 0), x -> x.pass(INTS, 0, 16, 0), x -> x.copy(16, INTS),
            x -> x.copy(INTS, 16), x -> x.stand(16, 0, COOL), x -> x.stand(STANDS, 0, 2), x -> x.standing(16, 0),
            x -> x.hum(16, 0), x -> x.lay(16, 0, INTS), x -> x.lay(SHEETS, 0, 16), x -> x.sheet(8, SHEETS, 0, 0),
            x -> x.sheet(INTS, 16, 0, 0), x -> x.sum(16, 0), x -> x.sum(INTS, 2), x -> x.highest(16, 0),
            x -> x.highest(INTS, 2),
        };
        failedStays("20 'and was not refused'", refused);
    }

    private static void failedAfterCallsThatCannotFail() {
        Yard.Call[] others = {
            x -> x.hold(INTS, INTS, 1), x -> x.hold(INTS, EMPTY, 0), x -> x.hold(INTS, 11, 0), x -> x.share(INTS, LONGS),
            x -> x.share(INTS, EMPTY), x -> x.share(16, 0), x -> x.keep(INTS, WARM), x -> x.keep(INTS, 2),
            x -> x.hive(0, true), x -> x.hive(-1, true), x -> x.same(INTS, SHARED), x -> x.same(INTS, LONGS),
            x -> x.same(16, 0), x -> x.sort(EMPTY), x -> x.sort(INTS), x -> x.sort(16), x -> x.failed(),
            x -> x.count(0), x -> x.count(1), x -> x.count(3), x -> x.count(4), x -> new HiveColumns().places(0),
        };
        failedStays("20 'the latest call that may fail by one'", others);
    }

    private static void failedStays(String sentence, Yard.Call[] calls) {
        for (int cause = 0; cause <= 3; cause++) {
            for (int n = 0; n < calls.length; n++) {
                HiveColumns x = Yard.make();
                Yard.failBy(x, cause);
                calls[n].on(x);
                Due.is(sentence + ", call " + n, x.failed(), cause);
                for (int each = 1; each <= 3; each++) {
                    Due.is(sentence + ", counted, call " + n, x.count(each), each == cause ? 1 : 0);
                }
            }
        }
    }

    private static void countOfCauses() {
        for (int cause = 1; cause <= 3; cause++) {
            HiveColumns x = Yard.make();
            for (int n = 1; n <= 90; n++) {
                Yard.failBy(x, cause);
                Due.is("21 'How many calls failed by a CAUSE 1 .. 3'", x.count(cause), n);
                Due.is("21 'How many calls failed', by another", x.count(cause % 3 + 1), 0);
                Due.is("21 '0: HIVES'", x.count(0), 2);
            }
        }
        for (int n = 0; n <= 30; n++) {
            HiveColumns x = new HiveColumns();
            for (int hive = 0; hive < n; hive++) {
                x.hive(hive, true);
            }
            Due.is("21 '0: HIVES'", x.count(0), n);
        }
        HiveColumns x = row(INTS, 1, 2, 3);
        x.hold(1, INTS, 2);
        x.copy(0, 1);
        x.copy(0, 1);
        Due.is("21 'copy(): as failed() tells'", x.count(3), 2);
    }

    private static void countOutside() {
        for (int cause : new int[] {LOWEST, -1, 4, HIGHEST}) {
            Yard.refuses("21 'OUTSIDE', " + cause, OUTSIDE, x -> x.count(cause));
        }
        for (int cause = 0; cause <= 3; cause++) {
            Due.is("21 not OUTSIDE, " + cause, new HiveColumns().count(cause), 0);
        }
    }

    private static void longestRun() {
        String sentence = "'used for at most 512 calls'";
        HiveColumns x = new HiveColumns();
        for (int n = 0; n < 511; n++) {
            x.places(0);
        }
        Due.is(sentence + ", all of them failed", x.count(1), 511);
        HiveColumns y = new HiveColumns();
        for (int n = 0; n < 510; n++) {
            Due.is(sentence + ", a new ROW each", y.hold(n % 16, n % 11, 24), 1);
        }
        Due.is(sentence + ", the last but one", y.sort(509 % 16), 509 % 11);
        Due.is(sentence + ", the last", y.places(509 % 16), 24);
    }
}
