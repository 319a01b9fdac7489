/** The edges that promises 1 to 15 name, a test for each sentence. */
public final class CallsEdgesTest {
    private static final int NONE = Yard.NONE, UNKNOWN = Yard.UNKNOWN, OUTSIDE = Yard.OUTSIDE, FULL = Yard.FULL;
    private static final int NOTHING = Yard.NOTHING, MISFIT = Yard.MISFIT, PLACE = Yard.PLACE;
    private static final int LOWEST = Yard.LOWEST, HIGHEST = Yard.HIGHEST;
    private static final int TRUTHS = 0, INTS = 4, LONGS = 5, DOUBLES = 7, STANDS = 8, WARM_STANDS = 9, SHEETS = 10;
    private static final int HIVE = 11, EMPTY = 12, WARM_HIVE = 13, BARE = 15, COOL = 0, WARM = 1;
    private static final int[] ANY_INTS = {LOWEST, -2, -1, 0, 1, 23, 24, 25, HIGHEST};

    public static void main(String[] args) {
        newObject();
        holdSorts();
        holdNothing();
        holdOutside();
        shareWhatIsHeld();
        keepUnknown();
        hiveStores();
        hiveFull();
        placesCauses();
        enterBits();
        tellNumbersLikeFailures();
        passFirstThenSecond();
        passAsTheyAre();
        copyUntilOneFails();
        copyWithoutPlaces();
        copyFirstValue();
        copyLaterValue();
        copyToItself();
        standNothing();
        standingHeldItself();
        standingNone();
        standingBehindPlace();
        humNothing();
        humHeldItself();
        layWhatBelongs();
        sheetWhateverRow();
        sheetNothingThere();
        sheetOfNumbersAndHives();
        sheetPlaceThenKinds();
        Due.end();
    }

    private static void newObject() {
        HiveColumns x = new HiveColumns();
        Due.alike("1 'nothing was counted'", Yard.tally(x), "failed() 0, count() 0 0 0 0");
        Due.is("1 'no HIVES'", x.keep(0, 0), UNKNOWN);
        Due.is("1 'no HIVES', stand()", x.stand(0, 0, 0), UNKNOWN);
        Due.is("1 'no HIVES', the first", x.hive(0, false), 0);
        for (int column = 0; column <= 15; column++) {
            Due.is("1 'Nothing is held', " + column, x.sort(column), 12);
        }
        HiveColumns other = new HiveColumns();
        x.hold(0, INTS, 1);
        x.places(1);
        Due.is("1 'Nothing is held', another object", other.sort(0), 12);
        Due.alike("1 'nothing was counted', another object", Yard.tally(other), "failed() 0, count() 0 0 0 0");
    }

    private static void holdSorts() {
        for (int column : new int[] {0, 15}) {
            for (int sort = TRUTHS; sort <= SHEETS; sort++) {
                for (int n : new int[] {0, 1, 24}) {
                    HiveColumns x = Yard.make();
                    Due.is("2 'a new ROW of n places'", x.hold(column, sort, n), 1);
                    Due.is("2 'a new ROW of n places', sort", x.sort(column), sort);
                    Due.is("2 'a new ROW of n places', places", x.places(column), n);
                }
            }
        }
        HiveColumns x = Yard.make();
        x.hold(INTS, INTS, 3);
        Due.is("2 'a new ROW', of 0", x.sum(INTS, 0), 0);
        Due.is("2 'a new ROW', the other column has the old one", x.tell(INTS, Yard.SHARED, 2), 2);
        Due.is("2 'a new ROW', the sheet is the old one", x.sheet(INTS, SHEETS, 0, 2), 2);
    }

    private static void holdNothing() {
        for (int n : ANY_INTS) {
            for (int column = 0; column <= 15; column++) {
                HiveColumns x = Yard.make();
                Due.is("2 'n is not looked at', " + n, x.hold(column, 12, n), 1);
                Due.is("2 'n is not looked at', held", x.sort(column), 12);
            }
            Yard.refuses("2 'n is not looked at', sort 11", OUTSIDE, x -> x.hold(0, 11, n));
            Yard.refuses("2 'n is not looked at', sort 13", OUTSIDE, x -> x.hold(0, 13, n));
        }
    }

    private static void holdOutside() {
        for (int sort : new int[] {LOWEST, -1, 11, 13, HIGHEST}) {
            Yard.refuses("2 'OUTSIDE: sort', " + sort, OUTSIDE, x -> x.hold(INTS, sort, 0));
            Yard.refuses("2 'OUTSIDE: sort', " + sort, OUTSIDE, x -> x.hold(INTS, sort, 24));
        }
        for (int sort = TRUTHS; sort <= SHEETS; sort++) {
            int each = sort;
            for (int n : new int[] {LOWEST, -1, 25, HIGHEST}) {
                Yard.refuses("2 'OUTSIDE: n', " + n, OUTSIDE, x -> x.hold(INTS, each, n));
            }
        }
    }

    private static void shareWhatIsHeld() {
        for (int from = 0; from <= 15; from++) {
            for (int column = 0; column <= 15; column++) {
                HiveColumns x = Yard.make();
                int sort = x.sort(from);
                Due.is("3 'holds what another one holds'", x.share(column, from), 1);
                Due.is("3 'holds what another one holds', sort", x.sort(column), sort);
                Due.is("3 'holds what another one holds', same", x.same(column, from), 1);
            }
        }
        HiveColumns x = Yard.make(), twin = Yard.make();
        x.share(INTS, INTS);
        Due.alike("3 with itself", Yard.contents(x), Yard.contents(twin));
    }

    private static void keepUnknown() {
        for (int column : new int[] {0, INTS, EMPTY, 15}) {
            for (int hive : new int[] {LOWEST, -1, 2, 29, 30, HIGHEST}) {
                Yard.refuses("4 'UNKNOWN', HIVE " + hive, UNKNOWN, x -> x.keep(column, hive));
            }
            for (int hive : new int[] {COOL, WARM}) {
                HiveColumns x = Yard.make();
                Due.is("4 'holds a HIVE itself'", x.keep(column, hive), 1);
                Due.is("4 'holds a HIVE itself', sort", x.sort(column), 11);
                Due.is("4 'holds a HIVE itself', its number", x.standing(column, 0), hive);
            }
        }
    }

    private static void hiveStores() {
        for (boolean warm : new boolean[] {false, true}) {
            for (int store : new int[] {LOWEST, -1000000, -1, 1000001, HIGHEST}) {
                Yard.refuses("5 'OUTSIDE: store 0 .. 1000000', " + store, OUTSIDE, x -> x.hive(store, warm));
            }
            for (int store : new int[] {0, 1, 999999, 1000000}) {
                HiveColumns x = Yard.make();
                Due.is("5 'store 0 .. 1000000', " + store, x.hive(store, warm), 2);
                x.keep(0, 2);
                Due.is("5 'store 0 .. 1000000', " + store, x.hum(0, 0), warm ? 1000 + 2 * store : store);
            }
        }
    }

    private static void hiveFull() {
        HiveColumns x = new HiveColumns();
        for (int n = 0; n < 29; n++) {
            x.hive(n, false);
        }
        Due.is("5 'FULL', the last that is not", x.hive(1, true), 29);
        Due.is("5 'FULL'", x.hive(1, true), FULL);
        Due.is("5 'FULL', again", x.hive(1, false), FULL);
        Due.is("5 'FULL', count(0)", x.count(0), 30);
        Due.is("5 'FULL', the last hive", x.keep(0, 29), 1);
        Due.is("5 'FULL', no hive more", x.keep(0, 30), UNKNOWN);
        Due.is("5 'FULL', no failure", x.failed(), 0);
    }

    private static void placesCauses() {
        Yard.fails("6 'NOTHING'", NOTHING, x -> x.places(EMPTY));
        Yard.fails("6 'MISFIT'", MISFIT, x -> x.places(HIVE));
        Yard.fails("6 'MISFIT', a WARM one", MISFIT, x -> x.places(WARM_HIVE));
        Yard.succeeds("6 'How many places', none", 0, x -> x.places(BARE));
        for (int sort = TRUTHS; sort <= SHEETS; sort++) {
            int each = sort;
            Yard.succeeds("6 'How many places'", 3, x -> x.places(each));
        }
    }

    private static void enterBits() {
        long[] ends = {Long.MIN_VALUE, -1, 0, 1, Long.MAX_VALUE};
        for (long bits : ends) {
            Yard.succeeds("7 'by BITS'", 1, x -> x.enter(LONGS, LONGS, 0, bits));
            Yard.fails("7 'CAUSES: all'", NOTHING, x -> x.enter(LONGS, EMPTY, 0, bits));
            Yard.fails("7 'CAUSES: all'", MISFIT, x -> x.enter(LONGS, INTS, 0, bits));
            Yard.fails("7 'CAUSES: all'", MISFIT, x -> x.enter(LONGS, STANDS, 3, bits));
            Yard.fails("7 'CAUSES: all'", PLACE, x -> x.enter(LONGS, INTS, 3, bits));
            Yard.refuses("7 'UNKNOWN (CLERK, COLUMN)'", UNKNOWN, x -> x.enter(8, LONGS, 0, bits));
            Yard.refuses("7 'UNKNOWN (CLERK, COLUMN)'", UNKNOWN, x -> x.enter(LONGS, 16, 0, bits));
            HiveColumns x = Yard.make();
            x.enter(LONGS, LONGS, 1, bits);
            Due.is("7 'at place i'", x.tell(LONGS, LONGS, 1), bits);
            Due.is("7 'at place i', not before", x.tell(LONGS, LONGS, 0), 1);
            Due.is("7 'at place i', not behind", x.tell(LONGS, LONGS, 2), 2);
        }
    }

    private static void tellNumbersLikeFailures() {
        for (int number : new int[] {NOTHING, MISFIT, PLACE, NONE, UNKNOWN, OUTSIDE, FULL}) {
            Yard.succeeds("8 'may be a number, too: failed() tells'", number, x -> {
                x.enter(LONGS, LONGS, 0, number);
                return x.tell(LONGS, LONGS, 0);
            });
        }
        Yard.fails("8 'CAUSES: all'", NOTHING, x -> x.tell(LONGS, EMPTY, 0));
        Yard.fails("8 'CAUSES: all'", MISFIT, x -> x.tell(LONGS, DOUBLES, 0));
        Yard.fails("8 'CAUSES: all'", PLACE, x -> x.tell(LONGS, DOUBLES, 3));
        Yard.refuses("8 'UNKNOWN'", UNKNOWN, x -> x.tell(8, LONGS, 0));
        Yard.refuses("8 'UNKNOWN'", UNKNOWN, x -> x.tell(LONGS, 16, 0));
    }

    private static void passFirstThenSecond() {
        String sentence = "9 'CAUSES of the first one (at i), then of the second one (at k)'";
        for (int second : new int[] {EMPTY, HIVE, TRUTHS, INTS, STANDS, SHEETS, BARE}) {
            for (int k : new int[] {LOWEST, -1, 0, 3, HIGHEST}) {
                Yard.fails(sentence, NOTHING, x -> x.pass(EMPTY, 0, second, k));
                Yard.fails(sentence, MISFIT, x -> x.pass(HIVE, 0, second, k));
                for (int i : Yard.NO_PLACES) {
                    Yard.fails(sentence, PLACE, x -> x.pass(DOUBLES, i, second, k));
                    Yard.fails(sentence, PLACE, x -> x.pass(STANDS, i, second, k));
                    Yard.fails(sentence, PLACE, x -> x.pass(SHEETS, i, second, k));
                }
                Yard.fails(sentence + ", without places", PLACE, x -> x.pass(BARE, 0, second, k));
            }
        }
        for (int i : new int[] {0, 2}) {
            Yard.succeeds(sentence + ", none", 1, x -> x.pass(INTS, i, LONGS, 2 - i));
            Yard.fails(sentence, MISFIT, x -> x.pass(LONGS, i, INTS, 2 - i));
            Yard.fails(sentence, NOTHING, x -> x.pass(LONGS, i, EMPTY, 3));
            Yard.fails(sentence, PLACE, x -> x.pass(LONGS, i, INTS, 3));
        }
    }

    private static void passAsTheyAre() {
        String sentence = "9 'HIVES and SHEETS, or nothing of them, as they are'";
        HiveColumns x = Yard.make();
        Due.is(sentence, x.pass(STANDS, 1, WARM_STANDS, 2), 1);
        Due.is(sentence + ", a WARM one", x.standing(WARM_STANDS, 2), WARM);
        Due.is(sentence + ", it stays where it was", x.standing(STANDS, 1), WARM);
        Due.is(sentence, x.pass(STANDS, 2, WARM_STANDS, 2), 1);
        Due.is(sentence + ", nothing", x.standing(WARM_STANDS, 2), NONE);
        Due.is(sentence, x.pass(SHEETS, 0, SHEETS, 2), 1);
        x.enter(INTS, INTS, 0, 55);
        Due.is(sentence + ", the very SHEET", x.sheet(INTS, SHEETS, 2, 0), 55);
        Due.is(sentence, x.pass(SHEETS, 1, SHEETS, 2), 1);
        Due.is(sentence + ", no SHEET", x.sheet(INTS, SHEETS, 2, 0), NOTHING);
        Due.is(sentence + ", nothing of SHEETS to STANDS", x.pass(SHEETS, 1, STANDS, 0), 1);
        Due.is(sentence + ", nothing of STANDS to SHEETS", x.pass(STANDS, 0, SHEETS, 0), 1);
        Due.is(sentence + ", nothing there", x.standing(SHEETS, 0), NONE);
    }

    private static HiveColumns rows(int kind, int n, int other, int m) {
        HiveColumns x = new HiveColumns();
        x.hive(7, false);
        x.hive(9, true);
        x.hold(0, kind, n);
        x.hold(1, other, m);
        for (int i = 0; i < n && kind < STANDS; i++) {
            x.enter(kind, 0, i, i + 1);
        }
        return x;
    }

    private static void copyUntilOneFails() {
        int[] lengths = {0, 1, 2, 23, 24};
        for (int n : lengths) {
            for (int m : lengths) {
                HiveColumns x = rows(INTS, n, LONGS, m);
                int passed = Math.min(n, m);
                Due.is("10 'until one fails: how many were', " + n + " to " + m, x.copy(0, 1),
                        n > 0 && m == 0 ? PLACE : passed);
                Due.is("10 'failed() tells it', " + n + " to " + m, x.failed(), n > m ? 3 : 0);
                Due.is("10 'and it is counted', " + n + " to " + m, x.count(3), n > m ? 1 : 0);
                for (int i = 0; i < m; i++) {
                    Due.is("10 'to the same ones', place " + i, x.tell(LONGS, 1, i), i < passed ? i + 1 : 0);
                }
            }
        }
    }

    private static void copyWithoutPlaces() {
        for (int sort = TRUTHS; sort <= SHEETS; sort++) {
            int each = sort;
            for (int to = TRUTHS; to <= WARM_HIVE; to++) {
                int second = to;
                Yard.succeeds("10 a ROW without places, to " + to, 0, x -> {
                    x.hold(Yard.SHARED, each, 0);
                    return x.copy(Yard.SHARED, second);
                });
            }
        }
    }

    private static void copyFirstValue() {
        String sentence = "10 'that by which the first value is not passed'";
        for (int to = TRUTHS; to <= WARM_HIVE; to++) {
            int second = to;
            Yard.fails("10 'NOTHING of the first COLUMN'", NOTHING, x -> x.copy(EMPTY, second));
            Yard.fails("10 'MISFIT of the first COLUMN'", MISFIT, x -> x.copy(HIVE, second));
        }
        for (int sort = TRUTHS; sort <= SHEETS; sort++) {
            int first = sort;
            Yard.fails(sentence + ", NOTHING", NOTHING, x -> x.copy(first, EMPTY));
            Yard.fails(sentence + ", MISFIT", MISFIT, x -> x.copy(first, HIVE));
            Yard.fails(sentence + ", PLACE", PLACE, x -> x.copy(first, BARE));
        }
        Yard.fails(sentence + ", by KINDS", MISFIT, x -> x.copy(LONGS, INTS));
        Yard.fails(sentence + ", not WARM", MISFIT, x -> x.copy(STANDS, WARM_STANDS));
        Yard.fails(sentence + ", a HIVE to SHEETS", MISFIT, x -> x.copy(STANDS, SHEETS));
        Yard.fails(sentence + ", a SHEET to STANDS", MISFIT, x -> x.copy(SHEETS, STANDS));
        Yard.fails(sentence + ", a HIVE to numbers", MISFIT, x -> x.copy(STANDS, INTS));
        HiveColumns x = rows(STANDS, 1, INTS, 0);
        Due.is(sentence + ", nothing to numbers without places", x.copy(0, 1), MISFIT);
        x.hold(1, STANDS, 0);
        Due.is(sentence + ", nothing to STANDS without places", x.copy(0, 1), PLACE);
    }

    private static void copyLaterValue() {
        String sentence = "10 'if a later one is not, failed() tells it, and it is counted'";
        for (int at = 1; at < 24; at++) {
            HiveColumns x = rows(STANDS, 24, WARM_STANDS, 24);
            for (int i = 0; i < 24; i++) {
                x.stand(0, i, i == at ? COOL : WARM);
            }
            Due.is(sentence + ", at " + at, x.copy(0, 1), at);
            Due.alike(sentence + ", at " + at, Yard.tally(x), "failed() 2, count() 2 0 1 0");
            Due.is(sentence + ", the last passed", x.standing(1, at - 1), WARM);
            Due.is(sentence + ", not passed", x.standing(1, at), NONE);
            Due.is(sentence + ", none behind it", x.standing(1, 23), NONE);
        }
        HiveColumns x = rows(SHEETS, 2, STANDS, 2);
        x.hold(2, INTS, 1);
        x.lay(0, 1, 2);
        x.stand(1, 0, COOL);
        Due.is(sentence + ", nothing, then a SHEET", x.copy(0, 1), 1);
        Due.alike(sentence, Yard.tally(x), "failed() 2, count() 2 0 1 0");
        Due.is(sentence + ", nothing was passed", x.standing(1, 0), NONE);
    }

    private static void copyToItself() {
        for (int column = TRUTHS; column <= SHEETS; column++) {
            HiveColumns x = Yard.make(), twin = Yard.make();
            Due.is("10 one COLUMN copied to itself", x.copy(column, column), 3);
            Due.alike("10 one COLUMN copied to itself: counted", Yard.tally(x), Yard.tally(twin));
            Due.alike("10 one COLUMN copied to itself: held", Yard.contents(x), Yard.contents(twin));
        }
        Yard.succeeds("10 to a COLUMN of the same ROW", 3, x -> x.copy(INTS, Yard.SHARED));
        Yard.fails("10 one COLUMN copied to itself, nothing", NOTHING, x -> x.copy(EMPTY, EMPTY));
        Yard.fails("10 one COLUMN copied to itself, a HIVE", MISFIT, x -> x.copy(HIVE, HIVE));
        Yard.succeeds("10 one COLUMN copied to itself, no places", 0, x -> x.copy(BARE, BARE));
    }

    private static void standNothing() {
        String sentence = "11 'A HIVE (NONE: nothing) is put at place i'";
        for (int i = 0; i < 3; i++) {
            HiveColumns x = Yard.make();
            Due.is(sentence + ", NONE", x.stand(STANDS, i, NONE), 1);
            Due.is(sentence + ", nothing is there", x.standing(STANDS, i), NONE);
            Due.is(sentence + ", NONE among SHEETS", x.stand(SHEETS, i, NONE), 1);
            Due.is(sentence + ", no SHEET is there", x.sheet(INTS, SHEETS, i, 0), NOTHING);
            Due.is(sentence + ", a WARM one", x.stand(WARM_STANDS, i, WARM), 1);
            Due.is(sentence + ", stands there", x.standing(WARM_STANDS, i), WARM);
            Due.is(sentence + ", one that is not WARM", x.stand(STANDS, i, COOL), 1);
            Due.is(sentence + ", stands there", x.standing(STANDS, i), COOL);
        }
        for (int hive : new int[] {LOWEST, -2, 2, 30, HIGHEST}) {
            Yard.refuses("11 'UNKNOWN', HIVE " + hive, UNKNOWN, x -> x.stand(STANDS, 0, hive));
        }
        Yard.fails("11 'CAUSES: all'", NOTHING, x -> x.stand(EMPTY, 0, WARM));
        Yard.fails("11 'CAUSES: all'", MISFIT, x -> x.stand(WARM_STANDS, 0, COOL));
        Yard.fails("11 'CAUSES: all'", PLACE, x -> x.stand(WARM_STANDS, 3, COOL));
    }

    private static void standingHeldItself() {
        for (int i : ANY_INTS) {
            Yard.succeeds("12 'i is not looked at then', " + i, COOL, x -> x.standing(HIVE, i));
            Yard.succeeds("12 'i is not looked at then', " + i, WARM, x -> x.standing(WARM_HIVE, i));
        }
    }

    private static void standingNone() {
        Yard.succeeds("12 'NONE: nothing stands there'", NONE, x -> x.standing(STANDS, 2));
        Yard.succeeds("12 'NONE: nothing stands there'", NONE, x -> x.standing(WARM_STANDS, 1));
        Yard.succeeds("12 'NONE: nothing stands there', no SHEET", NONE, x -> x.standing(SHEETS, 2));
        Yard.succeeds("12 'The number of the HIVE'", COOL, x -> x.standing(STANDS, 0));
        Yard.succeeds("12 'The number of the HIVE'", WARM, x -> x.standing(STANDS, 1));
    }

    private static void standingBehindPlace() {
        for (int kind = TRUTHS; kind <= DOUBLES; kind++) {
            int each = kind;
            Yard.fails("12 'MISFIT: a number'", MISFIT, x -> x.standing(each, 0));
            Yard.fails("12 'MISFIT: a number'", MISFIT, x -> x.standing(each, 2));
            for (int i : Yard.NO_PLACES) {
                Yard.fails("12 'behind PLACE', " + i, PLACE, x -> x.standing(each, i));
                Yard.fails("13 'CAUSES: all', " + i, PLACE, x -> x.hum(each, i));
            }
            Yard.fails("13 'CAUSES: all', a number", MISFIT, x -> x.hum(each, 2));
        }
        Yard.fails("12 'MISFIT: a SHEET there'", MISFIT, x -> x.standing(SHEETS, 0));
        Yard.fails("12 'behind PLACE', without places", PLACE, x -> x.standing(BARE, 0));
        for (int i : Yard.NO_PLACES) {
            Yard.fails("12 'behind PLACE', " + i, PLACE, x -> x.standing(SHEETS, i));
            Yard.fails("12 'behind PLACE', " + i, PLACE, x -> x.standing(STANDS, i));
            Yard.fails("12 NOTHING, " + i, NOTHING, x -> x.standing(EMPTY, i));
        }
    }

    private static void humNothing() {
        Yard.fails("13 'NOTHING, if nothing stands there'", NOTHING, x -> x.hum(STANDS, 2));
        Yard.fails("13 'NOTHING, if nothing stands there'", NOTHING, x -> x.hum(WARM_STANDS, 2));
        Yard.fails("13 'NOTHING, if nothing stands there', no SHEET", NOTHING, x -> x.hum(SHEETS, 2));
        Yard.fails("13 'CAUSES: all', nothing is held", NOTHING, x -> x.hum(EMPTY, 0));
        Yard.fails("13 'CAUSES: all', a SHEET", MISFIT, x -> x.hum(SHEETS, 0));
        for (int i : Yard.NO_PLACES) {
            for (int sort = STANDS; sort <= SHEETS; sort++) {
                int each = sort;
                Yard.fails("13 'CAUSES: all', " + i, PLACE, x -> x.hum(each, i));
            }
        }
        Yard.succeeds("13 'HUM of that HIVE'", 7, x -> x.hum(STANDS, 0));
        Yard.succeeds("13 'HUM of that HIVE'", 1018, x -> x.hum(STANDS, 1));
    }

    private static void humHeldItself() {
        for (int i : ANY_INTS) {
            Yard.succeeds("13 'HUM of that HIVE', held itself", 7, x -> x.hum(HIVE, i));
            Yard.succeeds("13 'HUM of that HIVE', held itself", 1018, x -> x.hum(WARM_HIVE, i));
        }
    }

    private static void layWhatBelongs() {
        for (int i = 0; i < 3; i++) {
            HiveColumns x = Yard.make();
            Due.is("14 'a ROW of ints as SHEET i'", x.lay(SHEETS, i, INTS), 1);
            Due.is("14 'a ROW of ints as SHEET i', told", x.sheet(INTS, SHEETS, i, 2), 2);
            Due.is("14 'a ROW of ints', without places", x.lay(SHEETS, i, BARE), 1);
            Due.is("14 'a ROW of ints', without places", x.sheet(INTS, SHEETS, i, 0), PLACE);
            Due.is("14 'nothing'", x.lay(SHEETS, i, EMPTY), 1);
            Due.is("14 'nothing', told", x.sheet(INTS, SHEETS, i, 0), NOTHING);
            Due.is("14 'a HIVE'", x.lay(STANDS, i, HIVE), 1);
            Due.is("14 'a HIVE', stands there", x.standing(STANDS, i), COOL);
            Due.is("14 'a HIVE', a WARM one", x.lay(WARM_STANDS, i, WARM_HIVE), 1);
            Due.is("14 'a HIVE', stands there", x.standing(WARM_STANDS, i), WARM);
            Due.is("14 'nothing', of STANDS", x.lay(WARM_STANDS, i, EMPTY), 1);
            Due.is("14 'nothing', of STANDS", x.standing(WARM_STANDS, i), NONE);
        }
        for (int laid = TRUTHS; laid <= HIVE; laid++) {
            int each = laid;
            if (laid != INTS) {
                Yard.fails("14 'if it belongs there', " + laid, MISFIT, x -> x.lay(SHEETS, 0, each));
            }
            if (laid != HIVE) {
                Yard.fails("14 'if it belongs there', " + laid, MISFIT, x -> x.lay(STANDS, 0, each));
            }
            Yard.fails("14 'if it belongs there', " + laid, MISFIT, x -> x.lay(WARM_STANDS, 0, each));
            Yard.fails("14 'CAUSES: all', " + laid, NOTHING, x -> x.lay(EMPTY, 3, each));
            Yard.fails("14 'CAUSES: all', " + laid, PLACE, x -> x.lay(SHEETS, 3, each));
        }
    }

    private static void sheetWhateverRow() {
        String sentence = "15 'all of the COLUMN (whatever ROW it is)'";
        for (int sort = TRUTHS; sort <= SHEETS; sort++) {
            int each = sort;
            for (int i : Yard.NO_PLACES) {
                for (int j : new int[] {LOWEST, -1, 0, 3, HIGHEST}) {
                    Yard.fails(sentence + ", sort " + sort, PLACE, x -> x.sheet(INTS, each, i, j));
                    Yard.fails(sentence + ", sort " + sort, PLACE, x -> x.sheet(TRUTHS, each, i, j));
                }
            }
        }
        Yard.fails(sentence + ", without places", PLACE, x -> x.sheet(INTS, BARE, 0, 0));
        Yard.fails(sentence + ", nothing", NOTHING, x -> x.sheet(INTS, EMPTY, 3, 3));
        Yard.fails(sentence + ", a HIVE", MISFIT, x -> x.sheet(INTS, HIVE, 3, 3));
        Yard.fails(sentence + ", a HIVE", MISFIT, x -> x.sheet(INTS, HIVE, 0, 0));
    }

    private static void sheetNothingThere() {
        for (int clerk = TRUTHS; clerk <= DOUBLES; clerk++) {
            int each = clerk;
            for (int j : new int[] {LOWEST, -1, 0, 3, HIGHEST}) {
                Yard.fails("15 'NOTHING: nothing is there'", NOTHING, x -> x.sheet(each, SHEETS, 1, j));
                Yard.fails("15 'NOTHING: nothing is there', of STANDS", NOTHING, x -> x.sheet(each, STANDS, 2, j));
                Yard.fails("15 'NOTHING: nothing is there', of WARM", NOTHING, x -> x.sheet(each, WARM_STANDS, 1, j));
            }
        }
    }

    private static void sheetOfNumbersAndHives() {
        for (int clerk = TRUTHS; clerk <= DOUBLES; clerk++) {
            int each = clerk;
            for (int j : new int[] {LOWEST, -1, 0, 3, HIGHEST}) {
                for (int kind = TRUTHS; kind <= DOUBLES; kind++) {
                    int row = kind;
                    Yard.fails("15 'MISFIT: a number is'", MISFIT, x -> x.sheet(each, row, 2, j));
                }
                Yard.fails("15 'MISFIT: a HIVE is'", MISFIT, x -> x.sheet(each, STANDS, 0, j));
                Yard.fails("15 'MISFIT: a HIVE is'", MISFIT, x -> x.sheet(each, WARM_STANDS, 0, j));
            }
        }
    }

    private static void sheetPlaceThenKinds() {
        String sentence = "15 'then PLACE, MISFIT (by KINDS) of the SHEET'";
        for (int clerk = TRUTHS; clerk <= DOUBLES; clerk++) {
            int each = clerk;
            for (int j : Yard.NO_PLACES) {
                Yard.fails(sentence + ", " + j, PLACE, x -> x.sheet(each, SHEETS, 0, j));
            }
            for (int j : new int[] {0, 2}) {
                if (clerk < INTS) {
                    Yard.fails(sentence + ", by " + clerk, MISFIT, x -> x.sheet(each, SHEETS, 0, j));
                }
            }
        }
        Yard.succeeds(sentence + ", ints", 2, x -> x.sheet(INTS, SHEETS, 0, 2));
        Yard.succeeds(sentence + ", longs", 1, x -> x.sheet(LONGS, SHEETS, 0, 0));
        Yard.succeeds(sentence + ", floats", Yard.FLOAT_TWO, x -> x.sheet(6, SHEETS, 0, 2));
        Yard.succeeds(sentence + ", doubles", Yard.ONE, x -> x.sheet(DOUBLES, SHEETS, 0, 0));
    }
}
