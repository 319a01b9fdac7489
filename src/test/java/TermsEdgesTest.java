/** The edges that the document's Terms name of columns, clerks, rows, places and hives. */
public final class TermsEdgesTest {
    private static final int NONE = Yard.NONE, UNKNOWN = Yard.UNKNOWN;
    private static final int NOTHING = Yard.NOTHING, MISFIT = Yard.MISFIT, PLACE = Yard.PLACE;
    private static final int LOWEST = Yard.LOWEST, HIGHEST = Yard.HIGHEST;
    private static final int INTS = 4, LONGS = 5, STANDS = 8, WARM_STANDS = 9, SHEETS = 10, HIVE = 11, EMPTY = 12;

    public static void main(String[] args) {
        columnsAre0To15();
        columnsAreApart();
        nothingAtFirst();
        clerksAre0To7();
        rowsHave0To24Places();
        atFirst0FalseNothing();
        placesOfNumbers();
        placesOfThings();
        placesOfSheets();
        thirtyHivesAtMost();
        hivesThatAreThere();
        humOfAHive();
        humOfAWarmOne();
        sameNumbersInBoth();
        sameThingsInBoth();
        sameRowAsSheet();
        sameRowInEveryColumn();
        Due.end();
    }

    /** A call, of one of its arguments. */
    private interface Asked {
        long by(HiveColumns x, int number);
    }

    /** Each call that takes a column, once for each column that it takes. */
    private static final Asked[] BY_COLUMN = {
        (x, c) -> x.hold(c, INTS, 3), (x, c) -> x.hold(c, EMPTY, 0), (x, c) -> x.share(c, INTS),
        (x, c) -> x.share(INTS, c), (x, c) -> x.keep(c, 0), (x, c) -> x.places(c), (x, c) -> x.enter(INTS, c, 0, 5),
        (x, c) -> x.tell(INTS, c, 0), (x, c) -> x.pass(c, 0, INTS, 0), (x, c) -> x.pass(INTS, 0, c, 0),
        (x, c) -> x.copy(c, INTS), (x, c) -> x.copy(INTS, c), (x, c) -> x.copy(Yard.BARE, c),
        (x, c) -> x.stand(c, 0, 0), (x, c) -> x.stand(c, 0, NONE), (x, c) -> x.standing(c, 0), (x, c) -> x.hum(c, 0),
        (x, c) -> x.lay(c, 0, INTS), (x, c) -> x.lay(SHEETS, 0, c), (x, c) -> x.sheet(INTS, c, 0, 0),
        (x, c) -> x.sum(c, 0), (x, c) -> x.sum(c, 1), (x, c) -> x.highest(c, 0), (x, c) -> x.highest(c, 1),
        (x, c) -> x.same(c, INTS), (x, c) -> x.same(INTS, c), (x, c) -> x.same(c, c), (x, c) -> x.sort(c),
    };

    private static void columnsAre0To15() {
        for (int n = 0; n < BY_COLUMN.length; n++) {
            Asked call = BY_COLUMN[n];
            String sentence = "'COLUMNS 0 .. 15', call " + n + " of BY_COLUMN";
            for (int column = 0; column <= 15; column++) {
                boolean known = call.by(Yard.make(), column) != UNKNOWN;
                Due.is(sentence + ", column " + column + " is there", known ? 1 : 0, 1);
            }
            for (int column : Yard.NO_COLUMNS) {
                Yard.refuses(sentence + ", column " + column, UNKNOWN, x -> call.by(x, column));
            }
        }
    }

    private static void columnsAreApart() {
        HiveColumns x = new HiveColumns();
        for (int column = 0; column <= 15; column++) {
            x.hold(column, LONGS, column + 1);
            x.enter(LONGS, column, column, 100 + column);
        }
        for (int column = 0; column <= 15; column++) {
            Due.is("'COLUMNS 0 .. 15', places(" + column + ")", x.places(column), column + 1);
            Due.is("'COLUMNS 0 .. 15', the last of " + column, x.tell(LONGS, column, column), 100 + column);
            Due.is("'COLUMNS 0 .. 15', sum(" + column + ")", x.sum(column, 0), 100 + column);
        }
    }

    private static void nothingAtFirst() {
        for (int column = 0; column <= 15; column++) {
            HiveColumns x = new HiveColumns();
            Due.is("'hold nothing at first', sort(" + column + ")", x.sort(column), 12);
            Due.is("'hold nothing at first', places(" + column + ")", x.places(column), NOTHING);
            Due.is("'hold nothing at first', same(0, " + column + ")", x.same(0, column), 1);
        }
    }

    private static void clerksAre0To7() {
        Asked[] calls = {
            (x, clerk) -> x.enter(clerk, INTS, 0, 5), (x, clerk) -> x.tell(clerk, INTS, 0),
            (x, clerk) -> x.sheet(clerk, SHEETS, 0, 0), (x, clerk) -> x.enter(clerk, EMPTY, 0, 5),
            (x, clerk) -> x.tell(clerk, HIVE, 0), (x, clerk) -> x.sheet(clerk, SHEETS, 9, 0),
        };
        for (int n = 0; n < calls.length; n++) {
            Asked call = calls[n];
            for (int clerk = 0; clerk <= 7; clerk++) {
                boolean known = call.by(Yard.make(), clerk) != UNKNOWN;
                Due.is("'CLERKS 0 .. 7', call " + n + ", clerk " + clerk + " is there", known ? 1 : 0, 1);
            }
            for (int clerk : Yard.NO_CLERKS) {
                Yard.refuses("'CLERKS 0 .. 7', call " + n + ", clerk " + clerk, UNKNOWN, x -> call.by(x, clerk));
            }
        }
    }

    private static void rowsHave0To24Places() {
        String sentence = "'ROWS have 0 .. 24 places'";
        for (int sort = 0; sort <= SHEETS; sort++) {
            int each = sort;
            for (int n = 0; n <= 24; n++) {
                HiveColumns x = new HiveColumns();
                Due.is(sentence + ", sort " + sort + ", n " + n, x.hold(0, sort, n), 1);
                Due.is(sentence + ", sort " + sort + ", places of " + n, x.places(0), n);
            }
            for (int n : new int[] {LOWEST, -1, 25, HIGHEST}) {
                Yard.refuses(sentence + ", sort " + sort + ", n " + n, Yard.OUTSIDE, x -> x.hold(0, each, n));
            }
        }
    }

    private static void atFirst0FalseNothing() {
        String sentence = "'at first 0, false, nothing'";
        HiveColumns x = new HiveColumns();
        for (int sort = 0; sort <= SHEETS; sort++) {
            x.hold(0, sort, 24);
            for (int i = 0; i < 24; i++) {
                long told = sort < STANDS ? x.tell(sort, 0, i) : x.standing(0, i);
                Due.is(sentence + ", sort " + sort + ", place " + i, told, sort < STANDS ? 0 : NONE);
            }
            Due.is(sentence + ", sort " + sort + ", failed()", x.failed(), 0);
        }
        x.hold(1, SHEETS, 24);
        Due.is(sentence + ", the first sheet", x.sheet(INTS, 1, 0, 0), NOTHING);
        Due.is(sentence + ", the last sheet", x.sheet(INTS, 1, 23, 0), NOTHING);
        x.hold(2, INTS, 1);
        x.enter(INTS, 2, 0, 8);
        x.hold(2, INTS, 1);
        Due.is(sentence + ", a row held anew", x.tell(INTS, 2, 0), 0);
    }

    /** Which places of a row of n a call finds: the first and the last one, none on either side. */
    private static void places(String sentence, int n, long found, HiveColumns x, Asked call) {
        if (n > 0) {
            Due.is(sentence + ", place 0 of " + n, call.by(x, 0), found);
            Due.is(sentence + ", place " + (n - 1) + " of " + n, call.by(x, n - 1), found);
        }
        for (int i : new int[] {LOWEST, -1, n, HIGHEST}) {
            Due.is(sentence + ", place " + i + " of " + n, call.by(x, i), PLACE);
            Due.is(sentence + ", place " + i + " of " + n + ", failed()", x.failed(), 3);
        }
        Due.is(sentence + ", of " + n + ", counted", x.count(3), 4);
    }

    private static final int[] LENGTHS = {0, 1, 2, 24};

    private static HiveColumns rowOf(int sort, int n) {
        HiveColumns x = new HiveColumns();
        x.hive(7, true);
        x.hold(0, sort, n);
        x.hold(1, sort, 1);
        x.hold(2, INTS, 1);
        x.keep(3, 0);
        return x;
    }

    private static void placesOfNumbers() {
        String sentence = "'PLACE: there is no such one'";
        for (int kind = 0; kind <= 7; kind++) {
            int each = kind;
            for (int n : LENGTHS) {
                places(sentence + ", enter()", n, 1, rowOf(kind, n), (x, i) -> x.enter(each, 0, i, 0));
                places(sentence + ", tell()", n, 0, rowOf(kind, n), (x, i) -> x.tell(each, 0, i));
                places(sentence + ", pass() from", n, 1, rowOf(kind, n), (x, i) -> x.pass(0, i, 1, 0));
                places(sentence + ", pass() to", n, 1, rowOf(kind, n), (x, i) -> x.pass(1, 0, 0, i));
                places(sentence + ", standing()", n, MISFIT, rowOf(kind, n), (x, i) -> x.standing(0, i));
                places(sentence + ", hum()", n, MISFIT, rowOf(kind, n), (x, i) -> x.hum(0, i));
                places(sentence + ", stand()", n, MISFIT, rowOf(kind, n), (x, i) -> x.stand(0, i, 0));
                places(sentence + ", lay()", n, MISFIT, rowOf(kind, n), (x, i) -> x.lay(0, i, 2));
                places(sentence + ", sheet()", n, MISFIT, rowOf(kind, n), (x, i) -> x.sheet(INTS, 0, i, 0));
            }
        }
    }

    private static void placesOfThings() {
        String sentence = "'PLACE: there is no such one'";
        for (int sort = STANDS; sort <= SHEETS; sort++) {
            int hive = sort == SHEETS ? MISFIT : 1;
            int sheet = sort == SHEETS ? 1 : MISFIT;
            for (int n : LENGTHS) {
                places(sentence + ", pass() from", n, 1, rowOf(sort, n), (x, i) -> x.pass(0, i, 1, 0));
                places(sentence + ", pass() to", n, 1, rowOf(sort, n), (x, i) -> x.pass(1, 0, 0, i));
                places(sentence + ", pass() a number to", n, MISFIT, rowOf(sort, n), (x, i) -> x.pass(2, 0, 0, i));
                places(sentence + ", stand()", n, hive, rowOf(sort, n), (x, i) -> x.stand(0, i, 0));
                places(sentence + ", stand() of nothing", n, 1, rowOf(sort, n), (x, i) -> x.stand(0, i, NONE));
                places(sentence + ", standing()", n, NONE, rowOf(sort, n), (x, i) -> x.standing(0, i));
                places(sentence + ", hum()", n, NOTHING, rowOf(sort, n), (x, i) -> x.hum(0, i));
                places(sentence + ", lay() of a hive", n, hive, rowOf(sort, n), (x, i) -> x.lay(0, i, 3));
                places(sentence + ", lay() of ints", n, sheet, rowOf(sort, n), (x, i) -> x.lay(0, i, 2));
                places(sentence + ", lay() of nothing", n, 1, rowOf(sort, n), (x, i) -> x.lay(0, i, 9));
                places(sentence + ", sheet()", n, NOTHING, rowOf(sort, n), (x, i) -> x.sheet(INTS, 0, i, 0));
            }
        }
    }

    private static void placesOfSheets() {
        for (int n : LENGTHS) {
            HiveColumns x = rowOf(INTS, n);
            x.hold(1, SHEETS, 24);
            x.lay(1, 23, 0);
            places("'then PLACE of the SHEET'", n, 0, x, (y, j) -> y.sheet(INTS, 1, 23, j));
        }
    }

    private static HiveColumns withHives(int count) {
        HiveColumns x = new HiveColumns();
        for (int n = 0; n < count; n++) {
            x.hive(n, n % 2 == 1);
        }
        x.hold(0, STANDS, 1);
        return x;
    }

    private static void thirtyHivesAtMost() {
        HiveColumns x = withHives(0);
        for (int n = 0; n < 30; n++) {
            Due.is("'HIVES 0, 1, .. (30 at most)', number " + n, x.hive(n, n % 2 == 0), n);
            Due.is("'HIVES 0, 1, .. (30 at most)', count(0)", x.count(0), n + 1);
        }
        for (int n = 0; n < 3; n++) {
            Due.is("'HIVES 0, 1, .. (30 at most)', one more", x.hive(n, n == 1), Yard.FULL);
            Due.is("'HIVES 0, 1, .. (30 at most)', count(0)", x.count(0), 30);
        }
        for (int n = 0; n < 30; n++) {
            x.keep(1, n);
            Due.is("'HIVES 0, 1, .. (30 at most)', as it was made", x.hum(1, 0), n % 2 == 0 ? 1000 + 2 * n : n);
        }
    }

    private static void hivesThatAreThere() {
        for (int count : new int[] {0, 1, 2, 29, 30}) {
            for (int hive : new int[] {LOWEST, -2, count, count + 1, 30, 31, HIGHEST}) {
                HiveColumns x = withHives(count);
                boolean there = hive >= 0 && hive < count;
                Due.is("HIVES of " + count + ", keep " + hive, x.keep(1, hive), there ? 1 : UNKNOWN);
                Due.is("HIVES of " + count + ", held", x.sort(1), there ? 11 : 12);
                Due.is("HIVES of " + count + ", stand " + hive, x.stand(0, 0, hive), there ? 1 : UNKNOWN);
                Due.is("HIVES of " + count + ", standing", x.standing(0, 0), there ? hive : NONE);
            }
            for (int hive = 0; hive < count; hive++) {
                HiveColumns x = withHives(count);
                Due.is("HIVES of " + count + ", keep " + hive, x.keep(1, hive), 1);
                Due.is("HIVES of " + count + ", kept", x.standing(1, 0), hive);
                Due.is("HIVES of " + count + ", stand " + hive, x.stand(0, 0, hive), 1);
                Due.is("HIVES of " + count + ", standing", x.standing(0, 0), hive);
            }
            Due.is("HIVES of " + count + ", NONE is not kept", withHives(count).keep(1, NONE), UNKNOWN);
            Due.is("HIVES of " + count + ", NONE is put", withHives(count).stand(0, 0, NONE), 1);
        }
    }

    private static final int[] STORES = {0, 1, 499, 500, 999999, 1000000};

    private static void humOfAHive() {
        for (int store : STORES) {
            Due.is("'HUM of a HIVE is its STORE', " + store, humOf(store, false), store);
        }
    }

    private static void humOfAWarmOne() {
        int[] hums = {1000, 1002, 1998, 2000, 2000998, 2001000};
        for (int n = 0; n < hums.length; n++) {
            Due.is("'of a WARM one 1000 more than twice that', " + STORES[n], humOf(STORES[n], true), hums[n]);
        }
    }

    private static int humOf(int store, boolean warm) {
        HiveColumns x = new HiveColumns();
        x.hive(3, !warm);
        x.hold(0, STANDS, 1);
        x.stand(0, 0, x.hive(store, warm));
        x.keep(1, 1);
        int hum = x.hum(0, 0);
        Due.is("HUM is the same of one held itself", x.hum(1, 0), hum);
        return hum;
    }

    private static void sameNumbersInBoth() {
        String sentence = "'what comes into it is in both', numbers";
        HiveColumns x = new HiveColumns();
        x.hold(0, INTS, 3);
        x.share(1, 0);
        x.hold(2, INTS, 3);
        x.enter(INTS, 1, 0, 5);
        Due.is(sentence + ", enter()", x.tell(INTS, 0, 0), 5);
        x.enter(INTS, 2, 1, 6);
        x.pass(2, 1, 0, 1);
        Due.is(sentence + ", pass()", x.tell(INTS, 1, 1), 6);
        x.enter(INTS, 2, 2, 70);
        x.copy(2, 1);
        Due.is(sentence + ", copy()", x.tell(INTS, 0, 2), 70);
        Due.is(sentence + ", sum()", x.sum(0, 0), 76);
        Due.is(sentence + ", highest()", x.highest(0, 1), 2);
        x.pass(0, 2, 1, 0);
        Due.is(sentence + ", pass() from one to the other", x.sum(1, 0), 146);
        x.share(3, 1);
        x.hold(0, EMPTY, 0);
        x.hold(1, INTS, 1);
        Due.is(sentence + ", a third holds it yet", x.tell(INTS, 3, 0), 70);
        Due.is(sentence + ", a new one is another", x.tell(INTS, 1, 0), 0);
    }

    private static void sameThingsInBoth() {
        String sentence = "'what comes into it is in both', things";
        HiveColumns x = Yard.make();
        x.share(0, STANDS);
        x.share(1, WARM_STANDS);
        x.share(2, SHEETS);
        x.stand(0, 2, 1);
        Due.is(sentence + ", stand()", x.standing(STANDS, 2), 1);
        x.stand(STANDS, 1, NONE);
        Due.is(sentence + ", stand() of nothing", x.standing(0, 1), NONE);
        x.pass(0, 2, 1, 1);
        Due.is(sentence + ", pass()", x.standing(WARM_STANDS, 1), 1);
        x.lay(2, 1, INTS);
        Due.is(sentence + ", lay()", x.sheet(INTS, SHEETS, 1, 2), 2);
        x.lay(SHEETS, 0, EMPTY);
        Due.is(sentence + ", lay() of nothing", x.sheet(INTS, 2, 0, 2), NOTHING);
        x.hold(3, STANDS, 3);
        x.copy(3, 0);
        Due.is(sentence + ", copy()", x.standing(STANDS, 0), NONE);
    }

    private static void sameRowAsSheet() {
        String sentence = "'what comes into it is in both', a sheet";
        HiveColumns x = Yard.make();
        x.lay(SHEETS, 2, Yard.SHARED);
        x.enter(INTS, INTS, 1, -6);
        Due.is(sentence + ", the first sheet", x.sheet(INTS, SHEETS, 0, 1), -6);
        Due.is(sentence + ", the last sheet", x.sheet(INTS, SHEETS, 2, 1), -6);
        x.hold(INTS, INTS, 3);
        x.enter(INTS, Yard.SHARED, 1, -7);
        Due.is(sentence + ", by the other column", x.sheet(INTS, SHEETS, 0, 1), -7);
        Due.is(sentence + ", not the new row", x.tell(INTS, INTS, 1), 0);
    }

    private static void sameRowInEveryColumn() {
        HiveColumns x = new HiveColumns();
        x.hold(0, LONGS, 24);
        for (int column = 1; column <= 15; column++) {
            x.share(column, column - 1);
        }
        x.enter(LONGS, 7, 23, 9);
        for (int column = 0; column <= 15; column++) {
            Due.is("'Two COLUMNS may hold the same ROW', " + column, x.tell(LONGS, column, 23), 9);
            Due.is("'Two COLUMNS may hold the same ROW', same", x.same(column, 0), 1);
        }
    }
}
