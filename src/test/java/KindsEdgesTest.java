/** The edges that the document's Terms name of numbers: what goes into what, and by which bits. */
public final class KindsEdgesTest {
    private static final int MISFIT = Yard.MISFIT;
    private static final int TRUTHS = 0, BYTES = 1, SHORTS = 2, CHARS = 3, INTS = 4, LONGS = 5, FLOATS = 6, DOUBLES = 7;
    private static final int NO_FLOAT = 0x7fc00000;
    private static final long NO_DOUBLE = 0x7ff8000000000000L;
    private static final long LOWEST = Long.MIN_VALUE, HIGHEST = Long.MAX_VALUE;

    /** The columns of a pair: a row of one kind, one of another, each of one place. */
    private static final int FIRST = 0, SECOND = 15;

    public static void main(String[] args) {
        kindsGoInto();
        truthsGoIntoNothingElse();
        theSameNumber();
        theNearestFloat();
        theNearestDouble();
        lastBitZero();
        floatsInDoubles();
        lowestBits();
        bitsOfTheNumber();
        noFloat();
        noDouble();
        told();
        Due.end();
    }

    private static HiveColumns pair(int kind, int other) {
        HiveColumns x = new HiveColumns();
        x.hold(FIRST, kind, 1);
        x.hold(SECOND, other, 1);
        return x;
    }

    /** A value that a clerk of one kind enters is told so in another one, whichever way it goes there. */
    private static void widens(String sentence, int kind, long bits, int other, long told) {
        String what = sentence + ": " + bits + " of " + kind + " in " + other;
        HiveColumns x = pair(kind, other);
        Due.is(what + ", entered", x.enter(kind, SECOND, 0, bits), 1);
        Due.is(what + ", told after enter()", x.tell(other, SECOND, 0), told);
        x = pair(kind, other);
        x.enter(kind, FIRST, 0, bits);
        Due.is(what + ", told by the other clerk", x.tell(other, FIRST, 0), told);
        Due.is(what + ", passed", x.pass(FIRST, 0, SECOND, 0), 1);
        Due.is(what + ", told after pass()", x.tell(other, SECOND, 0), told);
        x = pair(kind, other);
        x.enter(kind, FIRST, 0, bits);
        Due.is(what + ", copied", x.copy(FIRST, SECOND), 1);
        Due.is(what + ", told after copy()", x.tell(other, SECOND, 0), told);
        x.hold(1, 10, 1);
        Due.is(what + ", laid", x.lay(1, 0, FIRST), kind == INTS ? 1 : MISFIT);
        if (kind == INTS) {
            Due.is(what + ", told of the sheet", x.sheet(other, 1, 0, 0), told);
        }
        Due.is(what + ", failed()", x.failed(), kind == INTS ? 0 : 2);
    }

    private static void doesNotGo(String sentence, int kind, int other) {
        String what = sentence + ": " + kind + " in " + other;
        HiveColumns x = pair(kind, other);
        Due.is(what + ", entered", x.enter(kind, SECOND, 0, 0), MISFIT);
        Due.is(what + ", told by the other clerk", x.tell(other, FIRST, 0), MISFIT);
        Due.is(what + ", passed", x.pass(FIRST, 0, SECOND, 0), MISFIT);
        Due.is(what + ", copied", x.copy(FIRST, SECOND), MISFIT);
        Due.is(what + ", counted", x.count(2), 4);
        if (kind == INTS) {
            x.hold(1, 10, 1);
            x.lay(1, 0, FIRST);
            Due.is(what + ", told of the sheet", x.sheet(other, 1, 0, 0), MISFIT);
        }
    }

    private static void kindsGoInto() {
        int[][] into = {
            {0}, {1, 2, 4, 5, 6, 7}, {2, 4, 5, 6, 7}, {3, 4, 5, 6, 7}, {4, 5, 6, 7}, {5, 6, 7}, {6, 7}, {7},
        };
        for (int kind = TRUTHS; kind <= DOUBLES; kind++) {
            for (int other = TRUTHS; other <= DOUBLES; other++) {
                if (contains(into[kind], other)) {
                    widens("'A KIND GOES INTO'", kind, 0, other, 0);
                } else {
                    doesNotGo("'A KIND GOES INTO'", kind, other);
                }
            }
        }
    }

    private static boolean contains(int[] all, int one) {
        for (int each : all) {
            if (each == one) {
                return true;
            }
        }
        return false;
    }

    private static void truthsGoIntoNothingElse() {
        widens("'0 goes into nothing else'", TRUTHS, 0, TRUTHS, 0);
        widens("'0 goes into nothing else'", TRUTHS, 1, TRUTHS, 1);
        for (int kind = BYTES; kind <= DOUBLES; kind++) {
            doesNotGo("'0 goes into nothing else'", TRUTHS, kind);
            doesNotGo("'0 goes into nothing else', nothing else into 0", kind, TRUTHS);
        }
    }

    private static void theSameNumber() {
        long[][] ends = {{0, 1}, {-128, 127}, {-32768, 32767}, {0, 65535}, {-2147483648L, 2147483647L}, {LOWEST, HIGHEST}};
        int[][] into = {{0}, {1, 2, 4, 5}, {2, 4, 5}, {3, 4, 5}, {4, 5}, {5}};
        for (int kind = TRUTHS; kind <= LONGS; kind++) {
            for (int other : into[kind]) {
                for (long end : ends[kind]) {
                    widens("'the same number'", kind, end, other, end);
                }
                widens("'the same number'", kind, 1, other, 1);
            }
        }
        long[][] small = {
            {BYTES, -128, 0xc3000000, 0xc060000000000000L}, {BYTES, 127, 0x42fe0000, 0x405fc00000000000L},
            {BYTES, -1, 0xbf800000, 0xbff0000000000000L}, {SHORTS, 1, 0x3f800000, 0x3ff0000000000000L},
            {SHORTS, -32768, 0xc7000000, 0xc0e0000000000000L}, {SHORTS, 32767, 0x46fffe00, 0x40dfffc000000000L},
            {CHARS, 0, 0, 0}, {CHARS, 65535, 0x477fff00, 0x40efffe000000000L},
            {INTS, -2147483648L, 0xcf000000, 0xc1e0000000000000L}, {LONGS, LOWEST, 0xdf000000, 0xc3e0000000000000L},
        };
        for (long[] row : small) {
            widens("'the same number'", (int) row[0], row[1], FLOATS, (int) row[2]);
            widens("'the same number'", (int) row[0], row[1], DOUBLES, row[3]);
        }
        widens("'the same number'", INTS, 2147483647L, DOUBLES, 0x41dfffffffc00000L);
        widens("'the same number'", INTS, -2147483647L, DOUBLES, 0xc1dfffffffc00000L);
    }

    /** Both the number and the one of the other sign. */
    private static void nearest(String sentence, long number, int other, long told) {
        long sign = other == FLOATS ? 0xffffffff80000000L : LOWEST;
        widens(sentence, LONGS, number, other, told);
        widens(sentence, LONGS, -number, other, told | sign);
        if (number == (int) number) {
            widens(sentence, INTS, number, other, told);
            widens(sentence, INTS, -number, other, told | sign);
        }
    }

    private static void theNearestFloat() {
        String sentence = "'the nearest one in 6'";
        nearest(sentence, (1 << 24) - 1, FLOATS, 0x4b7fffff);
        nearest(sentence, 1 << 24, FLOATS, 0x4b800000);
        nearest(sentence, (1 << 24) + 2, FLOATS, 0x4b800001);
        nearest(sentence, (1 << 25) + 1, FLOATS, 0x4c000000);
        nearest(sentence, (1 << 25) + 3, FLOATS, 0x4c000001);
        nearest(sentence, (1 << 25) + 5, FLOATS, 0x4c000001);
        nearest(sentence, (1 << 25) + 7, FLOATS, 0x4c000002);
        nearest(sentence, 2147483647 - 64, FLOATS, 0x4effffff);
        nearest(sentence, 2147483647, FLOATS, 0x4f000000);
        nearest(sentence, HIGHEST - (1L << 38), FLOATS, 0x5effffff);
        nearest(sentence, HIGHEST, FLOATS, 0x5f000000);
        // By way of a double these would be taken for halves.
        nearest(sentence, (1L << 60) + (1L << 36) + 1, FLOATS, 0x5d800001);
        nearest(sentence, (1L << 60) + (3L << 36) - 1, FLOATS, 0x5d800001);
    }

    private static void theNearestDouble() {
        String sentence = "'the nearest one in 7'";
        nearest(sentence, (1L << 53) - 1, DOUBLES, 0x433fffffffffffffL);
        nearest(sentence, 1L << 53, DOUBLES, 0x4340000000000000L);
        nearest(sentence, (1L << 53) + 2, DOUBLES, 0x4340000000000001L);
        nearest(sentence, (1L << 54) + 1, DOUBLES, 0x4350000000000000L);
        nearest(sentence, (1L << 54) + 3, DOUBLES, 0x4350000000000001L);
        nearest(sentence, (1L << 54) + 5, DOUBLES, 0x4350000000000001L);
        nearest(sentence, (1L << 54) + 7, DOUBLES, 0x4350000000000002L);
        nearest(sentence, HIGHEST - 512, DOUBLES, 0x43dfffffffffffffL);
        nearest(sentence, HIGHEST, DOUBLES, 0x43e0000000000000L);
    }

    private static void lastBitZero() {
        String sentence = "'of two as near the one whose last bit is 0'";
        nearest(sentence, (1 << 24) + 1, FLOATS, 0x4b800000);
        nearest(sentence, (1 << 24) + 3, FLOATS, 0x4b800002);
        nearest(sentence, (1 << 25) - 1, FLOATS, 0x4c000000);
        nearest(sentence, (1 << 25) + 2, FLOATS, 0x4c000000);
        nearest(sentence, (1 << 25) + 6, FLOATS, 0x4c000002);
        nearest(sentence, 2147483647 - 63, FLOATS, 0x4f000000);
        nearest(sentence, (1L << 60) + (1L << 36), FLOATS, 0x5d800000);
        nearest(sentence, (1L << 60) + (3L << 36), FLOATS, 0x5d800002);
        nearest(sentence, HIGHEST - (1L << 38) + 1, FLOATS, 0x5f000000);
        nearest(sentence, (1L << 53) + 1, DOUBLES, 0x4340000000000000L);
        nearest(sentence, (1L << 53) + 3, DOUBLES, 0x4340000000000002L);
        nearest(sentence, (1L << 54) - 1, DOUBLES, 0x4350000000000000L);
        nearest(sentence, (1L << 54) + 2, DOUBLES, 0x4350000000000000L);
        nearest(sentence, (1L << 54) + 6, DOUBLES, 0x4350000000000002L);
        nearest(sentence, HIGHEST - 511, DOUBLES, 0x43e0000000000000L);
    }

    private static void floatsInDoubles() {
        long[][] rows = {
            {0, 0}, {1, 0x36a0000000000000L}, {2, 0x36b0000000000000L}, {3, 0x36b8000000000000L},
            {0x007fffff, 0x380fffffc0000000L}, {0x00800000, 0x3810000000000000L}, {0x00800001, 0x3810000020000000L},
            {0x3f800000, 0x3ff0000000000000L}, {0x7f7fffff, 0x47efffffe0000000L}, {0x7f800000, 0x7ff0000000000000L},
        };
        for (long[] row : rows) {
            widens("'6 into 7: the same number'", FLOATS, row[0], DOUBLES, row[1]);
            widens("'6 into 7: the same number'", FLOATS, row[0] | 0x80000000L, DOUBLES, row[1] | LOWEST);
        }
    }

    /** Entered in a kind, told in it. */
    private static void toldAs(String sentence, int kind, long... bitsAndTold) {
        for (int at = 0; at < bitsAndTold.length; at += 2) {
            widens(sentence, kind, bitsAndTold[at], kind, bitsAndTold[at + 1]);
        }
    }

    private static void lowestBits() {
        String sentence = "'the lowest 1, 8, 16, 16, 32, 64 bits of a long'";
        toldAs(sentence, TRUTHS, 0, 0, 1, 1, 2, 0, 3, 1, -1, 1, -2, 0, LOWEST, 0, HIGHEST, 1);
        toldAs(sentence, BYTES, 127, 127, 128, -128, 255, -1, 256, 0, -128, -128, -129, 127, LOWEST, 0, HIGHEST, -1);
        toldAs(sentence, SHORTS, 32767, 32767, 32768, -32768, 65535, -1, 65536, 0, -32768, -32768, -32769, 32767,
                LOWEST, 0, HIGHEST, -1);
        toldAs(sentence, CHARS, 32768, 32768, 65535, 65535, 65536, 0, 65537, 1, -1, 65535, -65536, 0, -65537, 65535,
                LOWEST, 0, HIGHEST, 65535);
        toldAs(sentence, INTS, 2147483647L, 2147483647L, 2147483648L, -2147483648L, 4294967295L, -1, 4294967296L, 0,
                -2147483648L, -2147483648L, -2147483649L, 2147483647L, LOWEST, 0, HIGHEST, -1);
        toldAs(sentence, LONGS, LOWEST, LOWEST, LOWEST + 1, LOWEST + 1, -1, -1, 0, 0, HIGHEST - 1, HIGHEST - 1,
                HIGHEST, HIGHEST);
        // What stands above the lowest bits does not go into a wider kind.
        widens(sentence, BYTES, 0x1ff, LONGS, -1);
        widens(sentence, SHORTS, 0x18000, INTS, -32768);
        widens(sentence, CHARS, -1, LONGS, 65535);
        widens(sentence, INTS, HIGHEST, LONGS, -1);
        widens(sentence, INTS, LOWEST, DOUBLES, 0);
    }

    private static void bitsOfTheNumber() {
        String sentence = "'of 6, 7 those of the number (of 6 as an int)'";
        toldAs(sentence, FLOATS, 1, 1, 0x3f800000, 0x3f800000, 0x7f7fffff, 0x7f7fffff, LOWEST, 0,
                0x100000000L, 0, 0x13f800000L, 0x3f800000, 0x7fffffff00000001L, 1, 0x80000001L, 0x80000001,
                0xffffffff80000001L, 0x80000001);
        toldAs(sentence, DOUBLES, 1, 1, 0x3ff0000000000000L, 0x3ff0000000000000L, 0x7fefffffffffffffL,
                0x7fefffffffffffffL, LOWEST, LOWEST, LOWEST + 1, LOWEST + 1);
    }

    private static void noFloat() {
        String sentence = "'NO NUMBER has the BITS 0x7fc00000 (whichever bits were given)'";
        int[] none = {
            0x7f800001, 0x7f800002, 0x7fbfffff, 0x7fc00000, 0x7fc00001, 0x7fffffff,
            0xff800001, 0xffbfffff, 0xffc00000, 0xffc00001, 0xffffffff,
        };
        for (int bits : none) {
            for (long above : new long[] {0, 1, 0x7fffffff, 0x80000000L, 0xffffffffL}) {
                long given = above << 32 | bits & 0xffffffffL;
                widens(sentence, FLOATS, given, FLOATS, NO_FLOAT);
                widens(sentence, FLOATS, given, DOUBLES, NO_DOUBLE);
            }
        }
        widens(sentence, FLOATS, HIGHEST, FLOATS, NO_FLOAT);
        for (int bits : new int[] {0x7f7fffff, 0x7f800000, 0xff7fffff, 0xff800000, 0x80000000}) {
            widens(sentence + ", but this is one", FLOATS, bits, FLOATS, bits);
        }
    }

    private static void noDouble() {
        String sentence = "'NO NUMBER has the BITS 0x7ff8000000000000 (whichever bits were given)'";
        long[] none = {
            0x7ff0000000000001L, 0x7ff7ffffffffffffL, 0x7ff8000000000000L, 0x7ff8000000000001L, HIGHEST,
            0xfff0000000000001L, 0xfff7ffffffffffffL, 0xfff8000000000000L, 0xfff8000000000001L, -1,
        };
        for (long bits : none) {
            widens(sentence, DOUBLES, bits, DOUBLES, NO_DOUBLE);
        }
        long[] some = {0x7fefffffffffffffL, 0x7ff0000000000000L, 0xffefffffffffffffL, 0xfff0000000000000L, LOWEST};
        for (long bits : some) {
            widens(sentence + ", but this is one", DOUBLES, bits, DOUBLES, bits);
        }
    }

    private static void told() {
        toldAs("'Told are: truths 0, 1'", TRUTHS, 0, 0, 1, 1, -1, 1);
        toldAs("'bytes as numbers'", BYTES, 0x80, -128, 0x7f, 127);
        toldAs("'shorts as numbers'", SHORTS, 0x8000, -32768, 0x7fff, 32767);
        toldAs("'ints as numbers'", INTS, 0x80000000L, -2147483648L, 0x7fffffff, 2147483647);
        toldAs("'longs as numbers'", LONGS, LOWEST, LOWEST, HIGHEST, HIGHEST);
        toldAs("'chars from 0 on'", CHARS, 0, 0, 0x8000, 32768, 0xffff, 65535);
        widens("'chars from 0 on'", CHARS, -1, INTS, 65535);
        toldAs("'6 and 7 by BITS (6 as an int)'", FLOATS, 0x80000000L, -2147483648L, 0xff800000L, -8388608);
        toldAs("'6 and 7 by BITS (6 as an int)'", DOUBLES, LOWEST, LOWEST, 0xfff0000000000000L, -4503599627370496L);
        widens("'6 and 7 by BITS (6 as an int)'", INTS, -1, FLOATS, -1082130432);
        widens("'6 and 7 by BITS (6 as an int)'", LONGS, -1, FLOATS, -1082130432);
    }
}
