/** For each promise: ordinary inputs, the edges that the document names, wrong inputs. */
public final class PromisesTest {
    private static final int NOTHING = -11, MISFIT = -12, PLACE = -13;
    private static final int NONE = -1, UNKNOWN = -1001, OUTSIDE = -1002, FULL = -1003;
    private static final int[] NO_COLUMNS = {-1, 16, 17, Integer.MIN_VALUE, Integer.MAX_VALUE};
    private static final int[] NO_CLERKS = {-1, 8, Integer.MIN_VALUE, Integer.MAX_VALUE};
    private static final long ONE = Double.doubleToRawLongBits(1.0);
    private static final long NO_NUMBER = 0x7ff8000000000000L;

    // The yard that most tests use: a column of each sort, of three places.
    private static final int INTS = 4, STANDS = 8, WARM = 9, SHEETS = 10, HIVE = 11, EMPTY = 12, WARM_HIVE = 13;
    private static final int COOL = 0, HOT = 1;

    public static void main(String[] args) {
        newObject();
        hold();
        share();
        keep();
        hive();
        places();
        kinds();
        enter();
        tell();
        pass();
        copy();
        stand();
        standing();
        hum();
        lay();
        sheet();
        sum();
        highest();
        same();
        sort();
        failed();
        count();
        Due.end();
    }

    /** Row: a kind; place: whether it goes into the kind of that number. */
    private static final int[][] GOES = {
        {1, 0, 0, 0, 0, 0, 0, 0},
        {0, 1, 1, 0, 1, 1, 1, 1},
        {0, 0, 1, 0, 1, 1, 1, 1},
        {0, 0, 0, 1, 1, 1, 1, 1},
        {0, 0, 0, 0, 1, 1, 1, 1},
        {0, 0, 0, 0, 0, 1, 1, 1},
        {0, 0, 0, 0, 0, 0, 1, 1},
        {0, 0, 0, 0, 0, 0, 0, 1},
    };

    private static void kinds() {
        HiveColumns x = yard();
        for (int kind = 0; kind <= 7; kind++) {
            for (int other = 0; other <= 7; other++) {
                int due = GOES[kind][other] == 1 ? 1 : MISFIT;
                Due.is("7 kind " + kind + " entered into " + other, x.enter(kind, other, 0, 0), due);
                Due.is("8 kind " + kind + " told as " + other, x.tell(other, kind, 1), due == 1 ? 0 : MISFIT);
                Due.is("9 kind " + kind + " passed into " + other, x.pass(kind, 1, other, 2), due);
            }
        }
    }

    private static HiveColumns yard() {
        HiveColumns x = new HiveColumns();
        x.hive(7, false);
        x.hive(9, true);
        for (int sort = 0; sort <= 10; sort++) {
            x.hold(sort, sort, 3);
        }
        x.keep(HIVE, COOL);
        x.keep(WARM_HIVE, HOT);
        return x;
    }

    private static void unchanged(String what, HiveColumns x, int nothing, int misfit, int place, int latest) {
        Due.is(what + ": count(1)", x.count(1), nothing);
        Due.is(what + ": count(2)", x.count(2), misfit);
        Due.is(what + ": count(3)", x.count(3), place);
        Due.is(what + ": failed()", x.failed(), latest);
    }

    private static void newObject() {
        HiveColumns x = new HiveColumns();
        unchanged("1 new", x, 0, 0, 0, 0);
        Due.is("1 count(0)", x.count(0), 0);
        for (int c = 0; c < 16; c++) {
            Due.is("1 sort(" + c + ")", x.sort(c), 12);
        }
        Due.is("1 keep(0, 0)", x.keep(0, 0), UNKNOWN);
        HiveColumns y = new HiveColumns();
        x.hive(1, true);
        x.hold(0, 4, 1);
        x.tell(4, 1, 0);
        Due.is("1 apart: count(0)", y.count(0), 0);
        Due.is("1 apart: count(1)", y.count(1), 0);
        Due.is("1 apart: sort(0)", y.sort(0), 12);
        Due.is("1 NONE", HiveColumns.NONE, NONE);
        Due.is("1 UNKNOWN", HiveColumns.UNKNOWN, UNKNOWN);
        Due.is("1 OUTSIDE", HiveColumns.OUTSIDE, OUTSIDE);
        Due.is("1 FULL", HiveColumns.FULL, FULL);
    }

    private static void hold() {
        HiveColumns x = new HiveColumns();
        for (int sort = 0; sort <= 10; sort++) {
            for (int n : new int[] {0, 1, 23, 24}) {
                Due.is("2 hold(15, " + sort + ", " + n + ")", x.hold(15, sort, n), 1);
                Due.is("2 sort", x.sort(15), sort);
                Due.is("2 places", x.places(15), n);
            }
            Due.is("2 n -1", x.hold(15, sort, -1), OUTSIDE);
            Due.is("2 n 25", x.hold(15, sort, 25), OUTSIDE);
            Due.is("2 n lowest", x.hold(15, sort, Integer.MIN_VALUE), OUTSIDE);
            Due.is("2 n highest", x.hold(15, sort, Integer.MAX_VALUE), OUTSIDE);
            Due.is("2 as before", x.places(15), 24);
        }
        for (int sort : new int[] {-1, 11, 13, Integer.MIN_VALUE, Integer.MAX_VALUE}) {
            Due.is("2 hold(15, " + sort + ", 3)", x.hold(15, sort, 3), OUTSIDE);
            Due.is("2 as before", x.sort(15), 10);
        }
        for (int n : new int[] {-9, 0, 25, Integer.MIN_VALUE}) {
            x.hold(0, 4, 1);
            x.hold(3, 4, 1);
            Due.is("2 hold(3, 12, " + n + ")", x.hold(3, 12, n), 1);
            Due.is("2 holds nothing", x.sort(3), 12);
        }
        for (int c : NO_COLUMNS) {
            Due.is("2 hold(" + c + ", 4, 3)", x.hold(c, 4, 3), UNKNOWN);
            Due.is("2 before OUTSIDE", x.hold(c, 99, -3), UNKNOWN);
            Due.is("2 nothing", x.hold(c, 12, 0), UNKNOWN);
        }
        atFirst();
        newRowEachTime();
    }

    private static void atFirst() {
        HiveColumns x = yard();
        for (int kind = 0; kind <= 7; kind++) {
            for (int i = 0; i < 3; i++) {
                Due.is("2 tell(" + kind + ", " + kind + ", " + i + ")", x.tell(kind, kind, i), 0);
                Due.is("2 it is a number", x.failed(), 0);
            }
        }
        for (int column = STANDS; column <= SHEETS; column++) {
            Due.is("2 standing(" + column + ", 2)", x.standing(column, 2), NONE);
        }
        Due.is("2 no sheet", x.sheet(4, SHEETS, 2, 0), NOTHING);
    }

    private static void newRowEachTime() {
        HiveColumns x = yard();
        x.enter(4, INTS, 0, 5);
        x.share(14, INTS);
        x.hold(INTS, 4, 3);
        Due.is("2 a new row", x.tell(4, INTS, 0), 0);
        Due.is("2 the old one stays", x.tell(4, 14, 0), 5);
        Due.is("2 they are two", x.same(14, INTS), 0);
    }

    private static void share() {
        HiveColumns x = yard();
        Due.is("3 share(14, 4)", x.share(14, INTS), 1);
        Due.is("3 enter there", x.enter(4, 14, 2, -8), 1);
        Due.is("3 is here", x.tell(4, INTS, 2), -8);
        Due.is("3 enter here", x.enter(4, INTS, 1, 6), 1);
        Due.is("3 is there", x.tell(4, 14, 1), 6);
        Due.is("3 a hive", x.share(15, HIVE), 1);
        Due.is("3 the hive", x.standing(15, 0), COOL);
        Due.is("3 nothing", x.share(14, EMPTY), 1);
        Due.is("3 holds nothing", x.sort(14), 12);
        Due.is("3 itself", x.share(INTS, INTS), 1);
        Due.is("3 as it was", x.tell(4, INTS, 2), -8);
        x.share(14, STANDS);
        x.stand(14, 0, HOT);
        Due.is("3 stands", x.standing(STANDS, 0), HOT);
        for (int c : NO_COLUMNS) {
            Due.is("3 share(" + c + ", 4)", x.share(c, INTS), UNKNOWN);
            Due.is("3 share(4, " + c + ")", x.share(INTS, c), UNKNOWN);
        }
        Due.is("3 as it was", x.sort(INTS), 4);
        unchanged("3", x, 0, 0, 0, 0);
    }

    private static void keep() {
        HiveColumns x = yard();
        Due.is("4 keep(0, 1)", x.keep(0, HOT), 1);
        Due.is("4 sort", x.sort(0), 11);
        Due.is("4 standing", x.standing(0, 0), HOT);
        Due.is("4 keep(15, 0)", x.keep(15, COOL), 1);
        Due.is("4 hum", x.hum(15, 0), 7);
        for (int hive : new int[] {NONE, 2, 30, Integer.MIN_VALUE, Integer.MAX_VALUE}) {
            Due.is("4 keep(0, " + hive + ")", x.keep(0, hive), UNKNOWN);
        }
        for (int c : NO_COLUMNS) {
            Due.is("4 keep(" + c + ", 0)", x.keep(c, COOL), UNKNOWN);
        }
        Due.is("4 as before", x.standing(0, 0), HOT);
    }

    private static void hive() {
        HiveColumns x = new HiveColumns();
        for (int n = 0; n < 30; n++) {
            Due.is("5 hive " + n, x.hive(n == 3 ? 1000000 : n, n % 2 == 1), n);
            Due.is("5 count(0)", x.count(0), n + 1);
            Due.is("5 too little", x.hive(-1, true), OUTSIDE);
            Due.is("5 too much", x.hive(1000001, false), OUTSIDE);
            Due.is("5 far too little", x.hive(Integer.MIN_VALUE, false), OUTSIDE);
            Due.is("5 far too much", x.hive(Integer.MAX_VALUE, false), OUTSIDE);
        }
        Due.is("5 one more", x.hive(5, false), FULL);
        Due.is("5 OUTSIDE before FULL", x.hive(-5, false), OUTSIDE);
        Due.is("5 count(0)", x.count(0), 30);
        Due.is("5 keep the last", x.keep(0, 29), 1);
        Due.is("5 hum of it", x.hum(0, 0), 1058);
        Due.is("5 keep one more", x.keep(0, 30), UNKNOWN);
        x.keep(0, 3);
        Due.is("5 the highest store", x.hum(0, 0), 2001000);
    }

    private static void places() {
        HiveColumns x = yard();
        x.hold(14, 9, 24);
        x.hold(15, 10, 0);
        Due.is("6 places(14)", x.places(14), 24);
        Due.is("6 places(15)", x.places(15), 0);
        Due.is("6 places(0)", x.places(0), 3);
        Due.is("6 nothing", x.places(EMPTY), NOTHING);
        unchanged("6", x, 1, 0, 0, 1);
        Due.is("6 a hive", x.places(HIVE), MISFIT);
        unchanged("6", x, 1, 1, 0, 2);
        for (int c : NO_COLUMNS) {
            Due.is("6 places(" + c + ")", x.places(c), UNKNOWN);
        }
        unchanged("6 refused", x, 1, 1, 0, 2);
        x.places(0);
        unchanged("6 not failed", x, 1, 1, 0, 0);
    }

    private static void enter() {
        HiveColumns x = yard();
        Due.is("7 a truth", x.enter(0, 0, 1, 0x102), 1);
        Due.is("7 lowest bit alone", x.tell(0, 0, 1), 0);
        x.enter(0, 0, 1, -1);
        Due.is("7 true", x.tell(0, 0, 1), 1);
        x.enter(1, 1, 0, 0x7f80);
        Due.is("7 a byte", x.tell(1, 1, 0), -128);
        x.enter(2, 2, 0, 0x7ffff8000L);
        Due.is("7 a short", x.tell(2, 2, 0), -32768);
        x.enter(3, 3, 0, -1);
        Due.is("7 a char", x.tell(3, 3, 0), 65535);
        x.enter(4, 4, 0, 0x7fff80000000L);
        Due.is("7 an int", x.tell(4, 4, 0), Integer.MIN_VALUE);
        x.enter(5, 5, 0, Long.MIN_VALUE);
        Due.is("7 a long", x.tell(5, 5, 0), Long.MIN_VALUE);
        x.enter(6, 6, 0, 0x123480000000L);
        Due.is("7 a float, -0.0", x.tell(6, 6, 0), Integer.MIN_VALUE);
        x.enter(7, 7, 0, Long.MIN_VALUE);
        Due.is("7 a double, -0.0", x.tell(7, 7, 0), Long.MIN_VALUE);
        x.enter(6, 6, 1, 0xffffffffL);
        Due.is("7 no float", x.tell(6, 6, 1), 0x7fc00000);
        x.enter(7, 7, 1, -1L);
        Due.is("7 no double", x.tell(7, 7, 1), NO_NUMBER);
        enterFails();
    }

    private static void enterFails() {
        HiveColumns x = yard();
        x.enter(4, INTS, 2, 5);
        Due.is("7 nothing is held", x.enter(4, EMPTY, 99, 1), NOTHING);
        for (int column : new int[] {STANDS, WARM, SHEETS, HIVE}) {
            Due.is("7 none of numbers", x.enter(4, column, 0, 1), MISFIT);
            Due.is("7 before PLACE", x.enter(4, column, 3, 1), MISFIT);
        }
        Due.is("7 place 3", x.enter(4, INTS, 3, 1), PLACE);
        Due.is("7 place -1", x.enter(4, INTS, -1, 1), PLACE);
        Due.is("7 PLACE before kinds", x.enter(5, INTS, 3, 1), PLACE);
        Due.is("7 far off", x.enter(4, INTS, Integer.MAX_VALUE, 1), PLACE);
        Due.is("7 farther off", x.enter(4, INTS, Integer.MIN_VALUE, 1), PLACE);
        Due.is("7 longs into ints", x.enter(5, INTS, 2, 1), MISFIT);
        Due.is("7 as it was", x.tell(4, INTS, 2), 5);
        unchanged("7", x, 1, 9, 5, 0);
        for (int clerk : NO_CLERKS) {
            Due.is("7 no clerk", x.enter(clerk, INTS, 2, 1), UNKNOWN);
            Due.is("7 no clerk, nothing held", x.enter(clerk, EMPTY, 2, 1), UNKNOWN);
        }
        for (int c : NO_COLUMNS) {
            Due.is("7 no column", x.enter(4, c, 2, 1), UNKNOWN);
        }
        unchanged("7 refused", x, 1, 9, 5, 0);
    }

    private static void tell() {
        HiveColumns x = yard();
        x.enter(4, INTS, 2, -12);
        Due.is("8 a number like a failure", x.tell(4, INTS, 2), -12);
        Due.is("8 that is none", x.failed(), 0);
        Due.is("8 a failure", x.tell(2, INTS, 2), MISFIT);
        Due.is("8 that is one", x.failed(), 2);
        Due.is("8 by longs", x.tell(5, INTS, 2), -12);
        Due.is("8 nothing is held", x.tell(4, EMPTY, 9), NOTHING);
        for (int column : new int[] {STANDS, WARM, SHEETS, HIVE}) {
            Due.is("8 none of numbers", x.tell(4, column, 0), MISFIT);
            Due.is("8 before PLACE", x.tell(4, column, 3), MISFIT);
        }
        Due.is("8 place 3", x.tell(4, INTS, 3), PLACE);
        Due.is("8 place -1", x.tell(4, INTS, -1), PLACE);
        Due.is("8 PLACE before kinds", x.tell(0, INTS, 3), PLACE);
        unchanged("8", x, 1, 9, 3, 3);
        for (int clerk : NO_CLERKS) {
            Due.is("8 no clerk", x.tell(clerk, INTS, 0), UNKNOWN);
        }
        for (int c : NO_COLUMNS) {
            Due.is("8 no column", x.tell(4, c, 0), UNKNOWN);
        }
        unchanged("8 refused", x, 1, 9, 3, 3);
    }

    private static void pass() {
        HiveColumns x = yard();
        x.enter(4, INTS, 0, -3);
        Due.is("9 ints to longs", x.pass(INTS, 0, 5, 2), 1);
        Due.is("9 are there", x.tell(5, 5, 2), -3);
        Due.is("9 ints to doubles", x.pass(INTS, 0, 7, 1), 1);
        Due.is("9 are there", x.tell(7, 7, 1), Double.doubleToRawLongBits(-3.0));
        Due.is("9 ints to shorts", x.pass(INTS, 0, 2, 0), MISFIT);
        Due.is("9 within a row", x.pass(INTS, 0, INTS, 2), 1);
        Due.is("9 is there", x.tell(4, INTS, 2), -3);
        x.stand(STANDS, 0, COOL);
        x.stand(STANDS, 1, HOT);
        Due.is("9 a cool one to warm stands", x.pass(STANDS, 0, WARM, 0), MISFIT);
        Due.is("9 a warm one", x.pass(STANDS, 1, WARM, 0), 1);
        Due.is("9 is there", x.standing(WARM, 0), HOT);
        Due.is("9 back", x.pass(WARM, 0, STANDS, 2), 1);
        Due.is("9 is there", x.standing(STANDS, 2), HOT);
        Due.is("9 nothing over it", x.pass(WARM, 1, STANDS, 2), 1);
        Due.is("9 nothing is there", x.standing(STANDS, 2), NONE);
        x.lay(SHEETS, 0, INTS);
        Due.is("9 a sheet", x.pass(SHEETS, 0, SHEETS, 2), 1);
        x.enter(4, INTS, 1, 44);
        Due.is("9 the very same one", x.sheet(4, SHEETS, 2, 1), 44);
        Due.is("9 a sheet to stands", x.pass(SHEETS, 0, STANDS, 2), MISFIT);
        Due.is("9 no sheet to stands", x.pass(SHEETS, 1, STANDS, 0), 1);
        Due.is("9 nothing is there", x.standing(STANDS, 0), NONE);
        Due.is("9 no hive to sheets", x.pass(WARM, 2, SHEETS, 0), 1);
        Due.is("9 no sheet there", x.sheet(4, SHEETS, 0, 0), NOTHING);
        passFails();
    }

    private static void passFails() {
        HiveColumns x = yard();
        x.stand(STANDS, 0, COOL);
        x.lay(SHEETS, 0, INTS);
        Due.is("9 first nothing", x.pass(EMPTY, 9, HIVE, 9), NOTHING);
        Due.is("9 first no row", x.pass(HIVE, 9, EMPTY, 9), MISFIT);
        Due.is("9 first place", x.pass(INTS, 3, EMPTY, 0), PLACE);
        Due.is("9 first place -1", x.pass(STANDS, -1, HIVE, 0), PLACE);
        Due.is("9 second nothing", x.pass(INTS, 0, EMPTY, 9), NOTHING);
        Due.is("9 second nothing, of things", x.pass(STANDS, 1, EMPTY, 9), NOTHING);
        Due.is("9 second no row", x.pass(INTS, 0, HIVE, 9), MISFIT);
        Due.is("9 second no row, of things", x.pass(STANDS, 0, HIVE, 9), MISFIT);
        Due.is("9 nothing among numbers", x.pass(STANDS, 1, INTS, 9), MISFIT);
        Due.is("9 a hive among numbers, place", x.pass(STANDS, 0, INTS, 9), PLACE);
        Due.is("9 a hive among numbers", x.pass(STANDS, 0, INTS, 0), MISFIT);
        Due.is("9 a sheet among numbers, place", x.pass(SHEETS, 0, INTS, -1), PLACE);
        Due.is("9 a sheet among numbers", x.pass(SHEETS, 0, INTS, 0), MISFIT);
        Due.is("9 a number among hives, place", x.pass(INTS, 0, STANDS, 3), PLACE);
        Due.is("9 a number among hives", x.pass(INTS, 0, STANDS, 0), MISFIT);
        Due.is("9 a number among sheets, place", x.pass(INTS, 0, SHEETS, -1), PLACE);
        Due.is("9 a number among sheets", x.pass(INTS, 0, SHEETS, 0), MISFIT);
        Due.is("9 a hive among sheets, place", x.pass(STANDS, 0, SHEETS, 3), PLACE);
        Due.is("9 a hive among sheets", x.pass(STANDS, 0, SHEETS, 0), MISFIT);
        Due.is("9 place before kinds", x.pass(7, 0, 0, 3), PLACE);
        unchanged("9", x, 3, 9, 8, 3);
        for (int c : NO_COLUMNS) {
            Due.is("9 no first", x.pass(c, 0, EMPTY, 0), UNKNOWN);
            Due.is("9 no second", x.pass(EMPTY, 0, c, 0), UNKNOWN);
        }
        unchanged("9 refused", x, 3, 9, 8, 3);
    }

    private static void copy() {
        HiveColumns x = yard();
        for (int i = 0; i < 3; i++) {
            x.enter(4, INTS, i, 10 + i);
        }
        Due.is("10 to longs", x.copy(INTS, 5), 3);
        Due.is("10 the last one", x.tell(5, 5, 2), 12);
        x.hold(14, 5, 2);
        Due.is("10 to a shorter one", x.copy(INTS, 14), 2);
        Due.is("10 failed()", x.failed(), 3);
        Due.is("10 count(3)", x.count(3), 1);
        Due.is("10 what was passed stays", x.tell(5, 14, 1), 11);
        x.hold(14, 4, 24);
        x.enter(4, 14, 3, 99);
        Due.is("10 to a longer one", x.copy(INTS, 14), 3);
        Due.is("10 failed()", x.failed(), 0);
        Due.is("10 the rest stays", x.tell(4, 14, 3), 99);
        Due.is("10 to itself", x.copy(INTS, INTS), 3);
        Due.is("10 as it was", x.tell(4, INTS, 1), 11);
        x.stand(STANDS, 0, HOT);
        x.stand(STANDS, 1, COOL);
        Due.is("10 until a cool one", x.copy(STANDS, WARM), 1);
        Due.is("10 failed()", x.failed(), 2);
        Due.is("10 count(2)", x.count(2), 1);
        Due.is("10 the warm one", x.standing(WARM, 0), HOT);
        Due.is("10 none at the cool one's", x.standing(WARM, 1), NONE);
        x.hold(15, 10, 2);
        Due.is("10 nothing to sheets", x.copy(15, SHEETS), 2);
        copyFails();
    }

    private static void copyFails() {
        HiveColumns x = yard();
        x.hold(14, 4, 0);
        x.hold(15, 9, 0);
        Due.is("10 nothing is held", x.copy(EMPTY, INTS), NOTHING);
        Due.is("10 a hive", x.copy(HIVE, EMPTY), MISFIT);
        Due.is("10 into nothing", x.copy(INTS, EMPTY), NOTHING);
        Due.is("10 into a hive", x.copy(INTS, HIVE), MISFIT);
        Due.is("10 into no places", x.copy(INTS, 14), PLACE);
        Due.is("10 nothing into no places of numbers", x.copy(STANDS, 14), MISFIT);
        Due.is("10 nothing into no places of stands", x.copy(STANDS, 15), PLACE);
        Due.is("10 by kinds", x.copy(5, INTS), MISFIT);
        unchanged("10", x, 2, 4, 2, 2);
        Due.is("10 no places into nothing", x.copy(14, EMPTY), 0);
        Due.is("10 is none", x.failed(), 0);
        x.places(EMPTY);
        Due.is("10 no places into a hive", x.copy(15, HIVE), 0);
        Due.is("10 is none", x.failed(), 0);
        x.places(HIVE);
        for (int c : NO_COLUMNS) {
            Due.is("10 no first", x.copy(c, INTS), UNKNOWN);
            Due.is("10 no second", x.copy(14, c), UNKNOWN);
        }
        unchanged("10 refused", x, 3, 5, 2, 2);
    }

    private static void stand() {
        HiveColumns x = yard();
        Due.is("11 a cool one", x.stand(STANDS, 0, COOL), 1);
        Due.is("11 stands there", x.standing(STANDS, 0), COOL);
        Due.is("11 a warm one over it", x.stand(STANDS, 0, HOT), 1);
        Due.is("11 stands there", x.standing(STANDS, 0), HOT);
        Due.is("11 a cool one among warm ones", x.stand(WARM, 2, COOL), MISFIT);
        Due.is("11 none", x.standing(WARM, 2), NONE);
        Due.is("11 a warm one", x.stand(WARM, 2, HOT), 1);
        Due.is("11 a cool one over it", x.stand(WARM, 2, COOL), MISFIT);
        Due.is("11 the warm one stays", x.standing(WARM, 2), HOT);
        Due.is("11 taken away", x.stand(WARM, 2, NONE), 1);
        Due.is("11 none", x.standing(WARM, 2), NONE);
        x.lay(SHEETS, 1, INTS);
        Due.is("11 among sheets", x.stand(SHEETS, 1, HOT), MISFIT);
        Due.is("11 the sheet stays", x.sheet(4, SHEETS, 1, 0), 0);
        Due.is("11 nothing among sheets", x.stand(SHEETS, 1, NONE), 1);
        Due.is("11 no sheet", x.sheet(4, SHEETS, 1, 0), NOTHING);
        standFails();
    }

    private static void standFails() {
        HiveColumns x = yard();
        Due.is("11 nothing is held", x.stand(EMPTY, 0, COOL), NOTHING);
        Due.is("11 nothing is held", x.stand(EMPTY, 0, NONE), NOTHING);
        Due.is("11 in a hive", x.stand(HIVE, 9, COOL), MISFIT);
        Due.is("11 nothing in a hive", x.stand(HIVE, 9, NONE), MISFIT);
        for (int kind = 0; kind <= 7; kind++) {
            Due.is("11 nothing among numbers", x.stand(kind, 9, NONE), MISFIT);
            Due.is("11 a hive among numbers, place", x.stand(kind, 9, COOL), PLACE);
            Due.is("11 a hive among numbers", x.stand(kind, 0, HOT), MISFIT);
        }
        for (int column = STANDS; column <= SHEETS; column++) {
            Due.is("11 place 3", x.stand(column, 3, COOL), PLACE);
            Due.is("11 place -1", x.stand(column, -1, NONE), PLACE);
        }
        unchanged("11", x, 2, 18, 14, 3);
        for (int hive : new int[] {-2, 2, 30, Integer.MIN_VALUE, Integer.MAX_VALUE}) {
            Due.is("11 no hive", x.stand(EMPTY, 0, hive), UNKNOWN);
            Due.is("11 no hive", x.stand(STANDS, 0, hive), UNKNOWN);
        }
        for (int c : NO_COLUMNS) {
            Due.is("11 no column", x.stand(c, 0, COOL), UNKNOWN);
        }
        unchanged("11 refused", x, 2, 18, 14, 3);
    }

    private static void standing() {
        HiveColumns x = yard();
        x.stand(STANDS, 1, HOT);
        x.lay(SHEETS, 1, INTS);
        Due.is("12 a warm one", x.standing(STANDS, 1), HOT);
        Due.is("12 none", x.standing(STANDS, 0), NONE);
        Due.is("12 no sheet, no hive", x.standing(SHEETS, 0), NONE);
        Due.is("12 held itself", x.standing(HIVE, 0), COOL);
        Due.is("12 i is not looked at", x.standing(WARM_HIVE, -99), HOT);
        Due.is("12 failed()", x.failed(), 0);
        Due.is("12 a sheet", x.standing(SHEETS, 1), MISFIT);
        Due.is("12 place in sheets", x.standing(SHEETS, 3), PLACE);
        Due.is("12 place in stands", x.standing(WARM, -1), PLACE);
        for (int kind = 0; kind <= 7; kind++) {
            Due.is("12 a number", x.standing(kind, 2), MISFIT);
            Due.is("12 place before it", x.standing(kind, 3), PLACE);
        }
        Due.is("12 nothing is held", x.standing(EMPTY, 3), NOTHING);
        unchanged("12", x, 1, 9, 10, 1);
        for (int c : NO_COLUMNS) {
            Due.is("12 no column", x.standing(c, 0), UNKNOWN);
        }
        unchanged("12 refused", x, 1, 9, 10, 1);
    }

    private static void hum() {
        HiveColumns x = yard();
        x.hive(0, true);
        x.stand(STANDS, 0, COOL);
        x.stand(STANDS, 1, HOT);
        x.stand(WARM, 0, 2);
        x.lay(SHEETS, 1, INTS);
        Due.is("13 a cool one", x.hum(STANDS, 0), 7);
        Due.is("13 a warm one", x.hum(STANDS, 1), 1018);
        Due.is("13 without a store", x.hum(WARM, 0), 1000);
        Due.is("13 held itself", x.hum(HIVE, 77), 7);
        Due.is("13 a warm one held itself", x.hum(WARM_HIVE, -1), 1018);
        Due.is("13 failed()", x.failed(), 0);
        Due.is("13 nothing stands there", x.hum(STANDS, 2), NOTHING);
        Due.is("13 no sheet there", x.hum(SHEETS, 2), NOTHING);
        Due.is("13 nothing is held", x.hum(EMPTY, 2), NOTHING);
        Due.is("13 a sheet", x.hum(SHEETS, 1), MISFIT);
        Due.is("13 a number", x.hum(INTS, 1), MISFIT);
        Due.is("13 place", x.hum(INTS, 3), PLACE);
        Due.is("13 place", x.hum(STANDS, 3), PLACE);
        unchanged("13", x, 3, 2, 2, 3);
        for (int c : NO_COLUMNS) {
            Due.is("13 no column", x.hum(c, 0), UNKNOWN);
        }
        unchanged("13 refused", x, 3, 2, 2, 3);
    }

    private static void lay() {
        HiveColumns x = yard();
        Due.is("14 ints", x.lay(SHEETS, 0, INTS), 1);
        x.enter(4, INTS, 2, 31);
        Due.is("14 the very same row", x.sheet(4, SHEETS, 0, 2), 31);
        x.hold(INTS, 12, 0);
        Due.is("14 it stays when the column holds it no more", x.sheet(4, SHEETS, 0, 2), 31);
        Due.is("14 nothing over it", x.lay(SHEETS, 0, EMPTY), 1);
        Due.is("14 nothing is there", x.sheet(4, SHEETS, 0, 2), NOTHING);
        Due.is("14 a cool one", x.lay(STANDS, 0, HIVE), 1);
        Due.is("14 stands there", x.standing(STANDS, 0), COOL);
        Due.is("14 a warm one", x.lay(WARM, 0, WARM_HIVE), 1);
        Due.is("14 stands there", x.standing(WARM, 0), HOT);
        Due.is("14 a cool one among warm ones", x.lay(WARM, 0, HIVE), MISFIT);
        Due.is("14 the warm one stays", x.standing(WARM, 0), HOT);
        Due.is("14 nothing over it", x.lay(WARM, 0, EMPTY), 1);
        Due.is("14 none", x.standing(WARM, 0), NONE);
        layFails();
    }

    private static void layFails() {
        HiveColumns x = yard();
        Due.is("14 a hive among sheets", x.lay(SHEETS, 0, HIVE), MISFIT);
        for (int sort = 0; sort <= 10; sort++) {
            Due.is("14 row " + sort + " among sheets", x.lay(SHEETS, 0, sort), sort == INTS ? 1 : MISFIT);
            Due.is("14 row " + sort + " off place", x.lay(SHEETS, 3, sort), PLACE);
            Due.is("14 row " + sort + " among stands", x.lay(STANDS, 0, sort), MISFIT);
            Due.is("14 row " + sort + " among warm ones", x.lay(WARM, 0, sort), MISFIT);
            Due.is("14 row " + sort + " among numbers", x.lay(INTS, 0, sort), MISFIT);
            Due.is("14 row " + sort + " among numbers, place", x.lay(INTS, 3, sort), PLACE);
            Due.is("14 row " + sort + " in a hive", x.lay(HIVE, 3, sort), MISFIT);
            Due.is("14 row " + sort + " in nothing", x.lay(EMPTY, 3, sort), NOTHING);
        }
        Due.is("14 a hive among numbers", x.lay(5, 0, HIVE), MISFIT);
        Due.is("14 a hive among numbers, place", x.lay(5, -1, HIVE), PLACE);
        Due.is("14 nothing among numbers", x.lay(5, 99, EMPTY), MISFIT);
        Due.is("14 nothing off place", x.lay(SHEETS, -1, EMPTY), PLACE);
        Due.is("14 nothing in nothing", x.lay(EMPTY, 0, EMPTY), NOTHING);
        unchanged("14", x, 12, 57, 24, 1);
        for (int c : NO_COLUMNS) {
            Due.is("14 no column", x.lay(c, 0, INTS), UNKNOWN);
            Due.is("14 no sheet", x.lay(EMPTY, 0, c), UNKNOWN);
        }
        unchanged("14 refused", x, 12, 57, 24, 1);
    }

    private static void sheet() {
        HiveColumns x = yard();
        x.lay(SHEETS, 1, INTS);
        x.enter(4, INTS, 2, -3);
        x.stand(STANDS, 0, COOL);
        Due.is("15 by ints", x.sheet(4, SHEETS, 1, 2), -3);
        Due.is("15 by longs", x.sheet(5, SHEETS, 1, 2), -3);
        Due.is("15 by floats", x.sheet(6, SHEETS, 1, 2), Float.floatToRawIntBits(-3f));
        Due.is("15 by doubles", x.sheet(7, SHEETS, 1, 2), Double.doubleToRawLongBits(-3.0));
        Due.is("15 failed()", x.failed(), 0);
        for (int clerk = 0; clerk <= 3; clerk++) {
            Due.is("15 by kinds", x.sheet(clerk, SHEETS, 1, 2), MISFIT);
            Due.is("15 place before kinds", x.sheet(clerk, SHEETS, 1, 3), PLACE);
        }
        Due.is("15 place -1 of the sheet", x.sheet(4, SHEETS, 1, -1), PLACE);
        Due.is("15 nothing is held", x.sheet(4, EMPTY, 9, 9), NOTHING);
        Due.is("15 a hive is held", x.sheet(4, HIVE, 9, 9), MISFIT);
        Due.is("15 place of sheets", x.sheet(4, SHEETS, 3, 0), PLACE);
        Due.is("15 place of stands", x.sheet(4, STANDS, -1, 0), PLACE);
        Due.is("15 place of numbers", x.sheet(4, INTS, 3, 0), PLACE);
        Due.is("15 nothing among sheets", x.sheet(4, SHEETS, 0, 9), NOTHING);
        Due.is("15 nothing among stands", x.sheet(4, STANDS, 1, 9), NOTHING);
        Due.is("15 nothing among warm ones", x.sheet(0, WARM, 1, 9), NOTHING);
        Due.is("15 a hive", x.sheet(4, STANDS, 0, 9), MISFIT);
        Due.is("15 a number", x.sheet(4, INTS, 0, 9), MISFIT);
        unchanged("15", x, 4, 7, 8, 2);
        for (int clerk : NO_CLERKS) {
            Due.is("15 no clerk", x.sheet(clerk, SHEETS, 1, 2), UNKNOWN);
        }
        for (int c : NO_COLUMNS) {
            Due.is("15 no column", x.sheet(4, c, 1, 2), UNKNOWN);
        }
        unchanged("15 refused", x, 4, 7, 8, 2);
    }

    private static void sum() {
        HiveColumns x = yard();
        x.enter(5, 5, 0, Long.MAX_VALUE);
        x.enter(5, 5, 1, 2);
        Due.is("16 wrapping", x.sum(5, 0), Long.MIN_VALUE + 1);
        x.enter(3, 3, 0, -1);
        x.enter(3, 3, 2, -1);
        Due.is("16 chars", x.sum(3, 0), 131070);
        Due.is("16 chars as doubles", x.sum(3, 1), Double.doubleToRawLongBits(131070.0));
        for (int i = 0; i < 3; i++) {
            x.enter(7, 7, i, Long.MIN_VALUE);
        }
        Due.is("16 from 0.0 on", x.sum(7, 1), 0);
        x.enter(7, 7, 0, Double.doubleToRawLongBits(1e16));
        x.enter(7, 7, 1, ONE);
        x.enter(7, 7, 2, Double.doubleToRawLongBits(-1e16));
        Due.is("16 in order", x.sum(7, 1), 0);
        x.pass(7, 2, 7, 1);
        x.enter(7, 7, 2, ONE);
        Due.is("16 in another order", x.sum(7, 1), ONE);
        x.enter(7, 7, 0, 0x7ff0000000000000L);
        x.enter(7, 7, 1, 0xfff0000000000000L);
        Due.is("16 would be none", x.sum(7, 1), NO_NUMBER);
        x.enter(7, 7, 1, ONE);
        Due.is("16 without end", x.sum(7, 1), 0x7ff0000000000000L);
        x.enter(7, 7, 2, -1);
        Due.is("16 one is none", x.sum(7, 1), NO_NUMBER);
        Due.is("16 failed()", x.failed(), 0);
        sumFails();
    }

    private static void sumFails() {
        HiveColumns x = yard();
        int misfits = 0;
        for (int sort = 0; sort <= 10; sort++) {
            boolean longs = sort >= 1 && sort <= 5;
            boolean doubles = sort >= 1 && sort <= 7;
            Due.is("16 sum(" + sort + ", 0)", x.sum(sort, 0), longs ? 0 : MISFIT);
            Due.is("16 sum(" + sort + ", 1)", x.sum(sort, 1), doubles ? 0 : MISFIT);
            misfits += (longs ? 0 : 1) + (doubles ? 0 : 1);
            x.hold(14, sort, 0);
            Due.is("16 without places", x.sum(14, 0), 0);
            Due.is("16 without places", x.sum(14, 1), 0);
            Due.is("16 failed()", x.failed(), 0);
        }
        Due.is("16 nothing is held", x.sum(EMPTY, 1), NOTHING);
        Due.is("16 a hive", x.sum(HIVE, 0), MISFIT);
        unchanged("16", x, 1, misfits + 1, 0, 2);
        for (int what : new int[] {-1, 2, Integer.MIN_VALUE, Integer.MAX_VALUE}) {
            Due.is("16 what", x.sum(INTS, what), OUTSIDE);
            Due.is("16 what, of nothing", x.sum(EMPTY, what), OUTSIDE);
        }
        for (int c : NO_COLUMNS) {
            Due.is("16 no column", x.sum(c, 9), UNKNOWN);
        }
        unchanged("16 refused", x, 1, misfits + 1, 0, 2);
    }

    private static void highest() {
        HiveColumns x = yard();
        Due.is("17 the last of equal ones", x.highest(INTS, 0), 2);
        x.enter(4, INTS, 1, 5);
        Due.is("17 ints", x.highest(INTS, 0), 1);
        Due.is("17 ints as doubles", x.highest(INTS, 1), 1);
        for (int i = 0; i < 3; i++) {
            x.enter(5, 5, i, Long.MIN_VALUE);
        }
        Due.is("17 lowest longs", x.highest(5, 0), 2);
        x.enter(5, 5, 0, Long.MAX_VALUE);
        x.enter(5, 5, 1, Long.MAX_VALUE - 1);
        Due.is("17 longs", x.highest(5, 0), 0);
        Due.is("17 as doubles they are equal", x.highest(5, 1), 1);
        highestOfDoubles(x);
        highestFails();
    }

    private static void highestOfDoubles(HiveColumns x) {
        long none = -1L, minus = Long.MIN_VALUE, low = 0xfff0000000000000L;
        long[][] rows = {
            {none, none, none, NONE}, {none, low, none, 1}, {low, none, low, 2}, {0, minus, none, 1},
            {minus, 0, low, 1}, {minus, minus, minus, 2}, {ONE, 0, none, 0},
            {0x8000000000000001L, minus, low, 1}, {0x8000000000000001L, 0x8000000000000002L, low, 0},
            {0x7ff0000000000000L, ONE, none, 0}, {1, 2, 0, 1},
        };
        for (long[] row : rows) {
            for (int i = 0; i < 3; i++) {
                x.enter(7, 7, i, row[i]);
            }
            Due.is("17 " + java.util.Arrays.toString(row), x.highest(7, 1), row[3]);
            Due.is("17 failed()", x.failed(), 0);
        }
    }

    private static void highestFails() {
        HiveColumns x = yard();
        int misfits = 0;
        for (int sort = 0; sort <= 10; sort++) {
            boolean longs = sort >= 1 && sort <= 5;
            boolean doubles = sort >= 1 && sort <= 7;
            Due.is("17 highest(" + sort + ", 0)", x.highest(sort, 0), longs ? 2 : MISFIT);
            Due.is("17 highest(" + sort + ", 1)", x.highest(sort, 1), doubles ? 2 : MISFIT);
            misfits += (longs ? 0 : 1) + (doubles ? 0 : 1);
            x.hold(14, sort, 0);
            Due.is("17 without places", x.highest(14, 0), NONE);
            Due.is("17 without places", x.highest(14, 1), NONE);
            Due.is("17 failed()", x.failed(), 0);
        }
        Due.is("17 nothing is held", x.highest(EMPTY, 0), NOTHING);
        Due.is("17 a hive", x.highest(HIVE, 1), MISFIT);
        unchanged("17", x, 1, misfits + 1, 0, 2);
        for (int what : new int[] {-1, 2, Integer.MIN_VALUE, Integer.MAX_VALUE}) {
            Due.is("17 what", x.highest(EMPTY, what), OUTSIDE);
        }
        for (int c : NO_COLUMNS) {
            Due.is("17 no column", x.highest(c, 9), UNKNOWN);
        }
        unchanged("17 refused", x, 1, misfits + 1, 0, 2);
    }

    private static void same() {
        HiveColumns x = yard();
        x.share(14, INTS);
        Due.is("18 shared", x.same(14, INTS), 1);
        Due.is("18 with itself", x.same(INTS, INTS), 1);
        x.hold(14, 4, 3);
        Due.is("18 alike only", x.same(14, INTS), 0);
        x.keep(14, COOL);
        Due.is("18 the same hive", x.same(14, HIVE), 1);
        Due.is("18 another hive", x.same(14, WARM_HIVE), 0);
        x.hive(7, false);
        x.keep(14, 2);
        Due.is("18 a hive alike only", x.same(14, HIVE), 0);
        Due.is("18 a hive and a row", x.same(14, INTS), 0);
        Due.is("18 nothing both", x.same(EMPTY, 15), 1);
        Due.is("18 nothing and a row", x.same(EMPTY, INTS), 0);
        Due.is("18 a row and nothing", x.same(INTS, EMPTY), 0);
        for (int c : NO_COLUMNS) {
            Due.is("18 no first", x.same(c, EMPTY), UNKNOWN);
            Due.is("18 no second", x.same(EMPTY, c), UNKNOWN);
            Due.is("18 neither", x.same(c, c), UNKNOWN);
        }
        unchanged("18", x, 0, 0, 0, 0);
    }

    private static void sort() {
        HiveColumns x = yard();
        for (int sort = 0; sort <= 12; sort++) {
            Due.is("19 sort(" + sort + ")", x.sort(sort), sort);
        }
        Due.is("19 a warm hive", x.sort(WARM_HIVE), 11);
        for (int c : NO_COLUMNS) {
            Due.is("19 no column", x.sort(c), UNKNOWN);
        }
        unchanged("19", x, 0, 0, 0, 0);
    }

    private static void failed() {
        HiveColumns x = yard();
        x.tell(4, INTS, 3);
        Due.is("20 PLACE", x.failed(), 3);
        Due.is("20 asked again", x.failed(), 3);
        x.hold(14, 4, 1);
        x.share(15, 14);
        x.keep(15, COOL);
        x.hive(1, true);
        x.same(0, 1);
        x.sort(0);
        x.count(1);
        x.count(9);
        Due.is("20 calls that fail by none do not matter", x.failed(), 3);
        x.places(99);
        x.sum(0, 9);
        x.stand(STANDS, 0, 9);
        Due.is("20 nor refused ones", x.failed(), 3);
        Runnable[] good = {
            () -> x.places(INTS), () -> x.enter(4, INTS, 0, 1), () -> x.tell(4, INTS, 0),
            () -> x.pass(INTS, 0, INTS, 1), () -> x.copy(INTS, INTS), () -> x.stand(STANDS, 0, HOT),
            () -> x.standing(STANDS, 0), () -> x.hum(STANDS, 0), () -> x.lay(SHEETS, 0, INTS),
            () -> x.sheet(4, SHEETS, 0, 0), () -> x.sum(INTS, 0), () -> x.highest(INTS, 0),
        };
        for (int g = 0; g < good.length; g++) {
            x.places(EMPTY);
            Due.is("20 NOTHING", x.failed(), 1);
            x.places(HIVE);
            Due.is("20 MISFIT", x.failed(), 2);
            good[g].run();
            Due.is("20 good call " + g, x.failed(), 0);
        }
    }

    private static void count() {
        HiveColumns x = yard();
        for (int n = 1; n <= 60; n++) {
            x.places(EMPTY);
            x.places(HIVE);
            x.places(HIVE);
            x.tell(4, INTS, 3);
            x.tell(4, INTS, 2);
            Due.is("21 count(1)", x.count(1), n);
            Due.is("21 count(2)", x.count(2), 2 * n);
            Due.is("21 count(3)", x.count(3), n);
        }
        Due.is("21 count(0)", x.count(0), 2);
        for (int cause : new int[] {-1, 4, Integer.MIN_VALUE, Integer.MAX_VALUE}) {
            Due.is("21 count(" + cause + ")", x.count(cause), OUTSIDE);
        }
    }
}
