/** The orders of causes and of refusals in the document's Terms, and what such a call leaves as it was. */
public final class CausesEdgesTest {
    private static final int NONE = Yard.NONE, UNKNOWN = Yard.UNKNOWN, OUTSIDE = Yard.OUTSIDE, FULL = Yard.FULL;
    private static final int NOTHING = Yard.NOTHING, MISFIT = Yard.MISFIT, PLACE = Yard.PLACE;
    private static final int LOWEST = Yard.LOWEST, HIGHEST = Yard.HIGHEST;
    private static final int TRUTHS = 0, INTS = 4, LONGS = 5, DOUBLES = 7, STANDS = 8, WARM_STANDS = 9, SHEETS = 10;
    private static final int HIVE = 11, EMPTY = 12, COOL = 0, WARM = 1;
    private static final int[] ANY_PLACES = {LOWEST, -1, 0, 2, 3, HIGHEST};

    public static void main(String[] args) {
        nothingIsFirst();
        noRowIsBeforePlace();
        noneOfNumbersIsBeforePlace();
        nothingIntoNumbersIsBeforePlace();
        placeIsBeforeKinds();
        placeIsBeforeWhatDoesNotBelongThere();
        misfitElse();
        tenLessTheCause();
        unknownIsFirst();
        outsideIsBeforeFull();
        refusalsAreBeforeCauses();
        refusalsChangeNothing();
        Due.end();
    }

    private static void nothingIsFirst() {
        String sentence = "'Of several: NOTHING'";
        for (int i : ANY_PLACES) {
            for (int clerk = TRUTHS; clerk <= DOUBLES; clerk++) {
                int each = clerk;
                Yard.fails(sentence + ", enter()", NOTHING, x -> x.enter(each, EMPTY, i, 1));
                Yard.fails(sentence + ", tell()", NOTHING, x -> x.tell(each, EMPTY, i));
                Yard.fails(sentence + ", sheet()", NOTHING, x -> x.sheet(each, EMPTY, i, i));
            }
            for (int held = TRUTHS; held <= EMPTY; held++) {
                int each = held;
                Yard.fails(sentence + ", pass() from", NOTHING, x -> x.pass(EMPTY, i, each, i));
                Yard.fails(sentence + ", lay()", NOTHING, x -> x.lay(EMPTY, i, each));
            }
            for (int held = TRUTHS; held <= SHEETS; held++) {
                int each = held;
                Yard.fails(sentence + ", pass() to", NOTHING, x -> x.pass(each, 0, EMPTY, i));
                Yard.fails(sentence + ", pass() to", NOTHING, x -> x.pass(each, 2, EMPTY, i));
            }
            Yard.fails(sentence + ", stand()", NOTHING, x -> x.stand(EMPTY, i, COOL));
            Yard.fails(sentence + ", stand() of nothing", NOTHING, x -> x.stand(EMPTY, i, NONE));
            Yard.fails(sentence + ", standing()", NOTHING, x -> x.standing(EMPTY, i));
            Yard.fails(sentence + ", hum()", NOTHING, x -> x.hum(EMPTY, i));
        }
    }

    private static void noRowIsBeforePlace() {
        String sentence = "'MISFIT, if no ROW is held'";
        for (int hive : new int[] {HIVE, Yard.WARM_HIVE}) {
            for (int i : ANY_PLACES) {
                Yard.fails(sentence + ", enter()", MISFIT, x -> x.enter(INTS, hive, i, 1));
                Yard.fails(sentence + ", tell()", MISFIT, x -> x.tell(INTS, hive, i));
                Yard.fails(sentence + ", pass() from, before all of the second", MISFIT, x -> x.pass(hive, i, EMPTY, i));
                Yard.fails(sentence + ", pass() a number to", MISFIT, x -> x.pass(INTS, 0, hive, i));
                Yard.fails(sentence + ", pass() a hive to", MISFIT, x -> x.pass(STANDS, 0, hive, i));
                Yard.fails(sentence + ", pass() nothing to", MISFIT, x -> x.pass(STANDS, 2, hive, i));
                Yard.fails(sentence + ", stand()", MISFIT, x -> x.stand(hive, i, WARM));
                Yard.fails(sentence + ", stand() of nothing", MISFIT, x -> x.stand(hive, i, NONE));
                Yard.fails(sentence + ", lay()", MISFIT, x -> x.lay(hive, i, INTS));
                Yard.fails(sentence + ", lay() of nothing", MISFIT, x -> x.lay(hive, i, EMPTY));
                Yard.fails(sentence + ", lay() of a hive", MISFIT, x -> x.lay(hive, i, HIVE));
                Yard.fails(sentence + ", sheet()", MISFIT, x -> x.sheet(INTS, hive, i, i));
            }
        }
    }

    private static void noneOfNumbersIsBeforePlace() {
        String sentence = "'or by clerks none of numbers (8 to 11)'";
        for (int held = STANDS; held <= HIVE; held++) {
            int column = held;
            for (int clerk = TRUTHS; clerk <= DOUBLES; clerk++) {
                int each = clerk;
                for (int i : ANY_PLACES) {
                    Yard.fails(sentence + ", enter()", MISFIT, x -> x.enter(each, column, i, 1));
                    Yard.fails(sentence + ", tell()", MISFIT, x -> x.tell(each, column, i));
                }
            }
        }
    }

    private static void nothingIntoNumbersIsBeforePlace() {
        String sentence = "'MISFIT, if nothing is to come into a ROW of numbers'";
        for (int kind = TRUTHS; kind <= DOUBLES; kind++) {
            int each = kind;
            for (int i : ANY_PLACES) {
                Yard.fails(sentence + ", stand()", MISFIT, x -> x.stand(each, i, NONE));
                Yard.fails(sentence + ", lay()", MISFIT, x -> x.lay(each, i, EMPTY));
                Yard.fails(sentence + ", pass() of STANDS", MISFIT, x -> x.pass(STANDS, 2, each, i));
                Yard.fails(sentence + ", pass() of WARM ones", MISFIT, x -> x.pass(WARM_STANDS, 1, each, i));
                Yard.fails(sentence + ", pass() of SHEETS", MISFIT, x -> x.pass(SHEETS, 1, each, i));
            }
        }
        Yard.fails(sentence + ", without places", MISFIT, x -> x.stand(Yard.BARE, 0, NONE));
        Yard.fails(sentence + ", without places", MISFIT, x -> x.lay(Yard.BARE, 0, EMPTY));
    }

    private static void placeIsBeforeKinds() {
        String sentence = "'PLACE; MISFIT else (by KINDS)'";
        for (int kind = TRUTHS; kind <= DOUBLES; kind++) {
            for (int other = TRUTHS; other <= DOUBLES; other++) {
                int row = kind, clerk = other;
                for (int i : Yard.NO_PLACES) {
                    Yard.fails(sentence + ", enter()", PLACE, x -> x.enter(clerk, row, i, 1));
                    Yard.fails(sentence + ", tell()", PLACE, x -> x.tell(clerk, row, i));
                    Yard.fails(sentence + ", pass()", PLACE, x -> x.pass(clerk, 0, row, i));
                    Yard.fails(sentence + ", sheet()", PLACE, x -> x.sheet(clerk, SHEETS, 0, i));
                }
            }
        }
    }

    private static void placeIsBeforeWhatDoesNotBelongThere() {
        String sentence = "'PLACE; MISFIT else (a HIVE, a ROW that does not belong there)'";
        for (int i : Yard.NO_PLACES) {
            for (int row = TRUTHS; row <= SHEETS; row++) {
                int column = row;
                Yard.fails(sentence + ", stand()", PLACE, x -> x.stand(column, i, COOL));
                Yard.fails(sentence + ", pass() of a HIVE", PLACE, x -> x.pass(STANDS, 0, column, i));
                Yard.fails(sentence + ", pass() of a SHEET", PLACE, x -> x.pass(SHEETS, 0, column, i));
                Yard.fails(sentence + ", pass() of a number", PLACE, x -> x.pass(DOUBLES, 0, column, i));
                for (int thing = TRUTHS; thing <= HIVE; thing++) {
                    int laid = thing;
                    Yard.fails(sentence + ", lay()", PLACE, x -> x.lay(column, i, laid));
                }
            }
        }
    }

    private static void misfitElse() {
        String sentence = "'MISFIT else'";
        for (int kind = TRUTHS; kind <= DOUBLES; kind++) {
            int each = kind;
            Yard.fails(sentence + ", a HIVE among numbers", MISFIT, x -> x.stand(each, 0, WARM));
            Yard.fails(sentence + ", a HIVE laid among numbers", MISFIT, x -> x.lay(each, 2, HIVE));
            Yard.fails(sentence + ", a ROW among numbers", MISFIT, x -> x.lay(each, 0, INTS));
            Yard.fails(sentence + ", a ROW among its own numbers", MISFIT, x -> x.lay(each, 0, each));
            Yard.fails(sentence + ", a HIVE passed among numbers", MISFIT, x -> x.pass(STANDS, 0, each, 2));
            Yard.fails(sentence + ", a SHEET passed among numbers", MISFIT, x -> x.pass(SHEETS, 0, each, 2));
            for (int row = STANDS; row <= SHEETS; row++) {
                int column = row;
                Yard.fails(sentence + ", a number among " + row, MISFIT, x -> x.pass(each, 2, column, 0));
                Yard.fails(sentence + ", a ROW of numbers among " + row, each == INTS && row == SHEETS ? PLACE : MISFIT,
                        x -> x.lay(column, each == INTS && column == SHEETS ? 3 : 0, each));
            }
        }
        Yard.fails(sentence + ", not WARM among WARM ones", MISFIT, x -> x.stand(WARM_STANDS, 0, COOL));
        Yard.fails(sentence + ", not WARM, passed", MISFIT, x -> x.pass(STANDS, 0, WARM_STANDS, 0));
        Yard.fails(sentence + ", not WARM, laid", MISFIT, x -> x.lay(WARM_STANDS, 0, HIVE));
        Yard.fails(sentence + ", a HIVE among SHEETS", MISFIT, x -> x.stand(SHEETS, 0, WARM));
        Yard.fails(sentence + ", a HIVE passed among SHEETS", MISFIT, x -> x.pass(WARM_STANDS, 0, SHEETS, 0));
        Yard.fails(sentence + ", a SHEET among STANDS", MISFIT, x -> x.pass(SHEETS, 0, STANDS, 0));
        Yard.fails(sentence + ", a SHEET among WARM ones", MISFIT, x -> x.pass(SHEETS, 0, WARM_STANDS, 0));
        for (int row = STANDS; row <= SHEETS; row++) {
            int laid = row;
            Yard.fails(sentence + ", a ROW " + row + " as SHEET", MISFIT, x -> x.lay(SHEETS, 0, laid));
            Yard.fails(sentence + ", a ROW " + row + " among STANDS", MISFIT, x -> x.lay(STANDS, 0, laid));
        }
    }

    /** Each call with each cause that it can have: fails() looks at all that it must not change. */
    private static void tenLessTheCause() {
        String sentence = "'answers -10 less it, changes nothing but that it is counted'";
        Yard.fails(sentence, -11, x -> x.places(EMPTY));
        Yard.fails(sentence, -12, x -> x.places(HIVE));
        Yard.fails(sentence, -11, x -> x.enter(INTS, EMPTY, 0, 9));
        Yard.fails(sentence, -12, x -> x.enter(LONGS, INTS, 0, 9));
        Yard.fails(sentence, -13, x -> x.enter(INTS, INTS, 3, 9));
        Yard.fails(sentence, -11, x -> x.tell(INTS, EMPTY, 0));
        Yard.fails(sentence, -12, x -> x.tell(INTS, LONGS, 0));
        Yard.fails(sentence, -13, x -> x.tell(INTS, INTS, -1));
        Yard.fails(sentence, -11, x -> x.pass(INTS, 0, EMPTY, 0));
        Yard.fails(sentence, -12, x -> x.pass(LONGS, 0, INTS, 1));
        Yard.fails(sentence, -13, x -> x.pass(INTS, 0, INTS, 3));
        Yard.fails(sentence, -11, x -> x.copy(INTS, EMPTY));
        Yard.fails(sentence, -12, x -> x.copy(LONGS, INTS));
        Yard.fails(sentence, -13, x -> x.copy(INTS, Yard.BARE));
        Yard.fails(sentence, -11, x -> x.stand(EMPTY, 0, COOL));
        Yard.fails(sentence, -12, x -> x.stand(WARM_STANDS, 0, COOL));
        Yard.fails(sentence, -13, x -> x.stand(STANDS, 3, COOL));
        Yard.fails(sentence, -11, x -> x.standing(EMPTY, 0));
        Yard.fails(sentence, -12, x -> x.standing(SHEETS, 0));
        Yard.fails(sentence, -13, x -> x.standing(STANDS, 3));
        Yard.fails(sentence, -11, x -> x.hum(STANDS, 2));
        Yard.fails(sentence, -12, x -> x.hum(SHEETS, 0));
        Yard.fails(sentence, -13, x -> x.hum(STANDS, 3));
        Yard.fails(sentence, -11, x -> x.lay(EMPTY, 0, INTS));
        Yard.fails(sentence, -12, x -> x.lay(SHEETS, 0, LONGS));
        Yard.fails(sentence, -13, x -> x.lay(SHEETS, 3, EMPTY));
        Yard.fails(sentence, -11, x -> x.sheet(INTS, SHEETS, 1, 0));
        Yard.fails(sentence, -12, x -> x.sheet(TRUTHS, SHEETS, 0, 0));
        Yard.fails(sentence, -13, x -> x.sheet(INTS, SHEETS, 0, 3));
        Yard.fails(sentence, -11, x -> x.sum(EMPTY, 0));
        Yard.fails(sentence, -12, x -> x.sum(DOUBLES, 0));
        Yard.fails(sentence, -11, x -> x.highest(EMPTY, 0));
        Yard.fails(sentence, -12, x -> x.highest(DOUBLES, 0));
    }

    private static void unknownIsFirst() {
        String sentence = "'of several the first that the call tells: UNKNOWN'";
        for (int column : Yard.NO_COLUMNS) {
            Yard.refuses(sentence + ", before sort", UNKNOWN, x -> x.hold(column, 11, 3));
            Yard.refuses(sentence + ", before n", UNKNOWN, x -> x.hold(column, INTS, 25));
            Yard.refuses(sentence + ", before both", UNKNOWN, x -> x.hold(column, -1, -1));
            for (int what : new int[] {LOWEST, -1, 2, HIGHEST}) {
                Yard.refuses(sentence + ", sum()", UNKNOWN, x -> x.sum(column, what));
                Yard.refuses(sentence + ", highest()", UNKNOWN, x -> x.highest(column, what));
            }
        }
    }

    private static void outsideIsBeforeFull() {
        HiveColumns x = new HiveColumns();
        for (int n = 0; n < 30; n++) {
            x.hive(n, false);
        }
        for (int store : new int[] {LOWEST, -1, 1000001, HIGHEST}) {
            Due.is("'OUTSIDE, FULL', " + store, x.hive(store, true), OUTSIDE);
        }
        Due.is("'OUTSIDE, FULL', 0", x.hive(0, true), FULL);
        Due.is("'OUTSIDE, FULL', 1000000", x.hive(1000000, true), FULL);
    }

    private static void refusalsAreBeforeCauses() {
        String sentence = "REFUSALS 'are not counted', though a CAUSE were there";
        for (int held : new int[] {EMPTY, HIVE, INTS}) {
            Yard.refuses(sentence, UNKNOWN, x -> x.enter(8, held, 9, 1));
            Yard.refuses(sentence, UNKNOWN, x -> x.tell(-1, held, 9));
            Yard.refuses(sentence, UNKNOWN, x -> x.sheet(8, held, 9, 9));
            Yard.refuses(sentence, UNKNOWN, x -> x.pass(held, 9, 16, 9));
            Yard.refuses(sentence, UNKNOWN, x -> x.copy(held, 16));
            Yard.refuses(sentence, UNKNOWN, x -> x.stand(held, 9, 2));
            Yard.refuses(sentence, UNKNOWN, x -> x.lay(held, 9, -1));
            Yard.refuses(sentence, OUTSIDE, x -> x.sum(held, 2));
            Yard.refuses(sentence, OUTSIDE, x -> x.highest(held, -1));
        }
    }

    /** Each refusal that no other test here has: refuses() looks at all that it must not change. */
    private static void refusalsChangeNothing() {
        String sentence = "REFUSALS 'change nothing, and are not counted'";
        for (int column = 0; column <= 15; column++) {
            int each = column;
            Yard.refuses(sentence, OUTSIDE, x -> x.hold(each, 11, 3));
            Yard.refuses(sentence, OUTSIDE, x -> x.hold(each, INTS, 25));
            Yard.refuses(sentence, UNKNOWN, x -> x.share(each, 16));
            Yard.refuses(sentence, UNKNOWN, x -> x.keep(each, 2));
            Yard.refuses(sentence, UNKNOWN, x -> x.keep(each, NONE));
            Yard.refuses(sentence, UNKNOWN, x -> x.stand(each, 0, 2));
            Yard.refuses(sentence, UNKNOWN, x -> x.stand(each, 0, -2));
        }
        Yard.refuses(sentence, OUTSIDE, x -> x.hive(-1, false));
        Yard.refuses(sentence, OUTSIDE, x -> x.hive(1000001, true));
        Yard.refuses(sentence, OUTSIDE, x -> x.count(4));
        Yard.refuses(sentence, OUTSIDE, x -> x.count(-1));
        Yard.refuses(sentence, UNKNOWN, x -> x.same(16, 16));
        Yard.refuses(sentence, UNKNOWN, x -> x.sort(16));
        fullChangesNothing(sentence);
    }

    private static void fullChangesNothing(String sentence) {
        HiveColumns x = Yard.makeWithFailures(3), twin = Yard.makeWithFailures(3);
        for (int n = 2; n < 30; n++) {
            x.hive(n, true);
            twin.hive(n, true);
        }
        Due.is(sentence + ", FULL", x.hive(5, true), FULL);
        Due.alike(sentence + ", FULL: what was counted", Yard.tally(x), Yard.tally(twin));
        Due.alike(sentence + ", FULL: what is held", Yard.contents(x), Yard.contents(twin));
    }
}
