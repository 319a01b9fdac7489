import java.util.Random;

/** Widening and sums of doubles, against what the Java machine itself reckons. */
public final class NumbersTest {
    private static final int CALLS_OF_AN_OBJECT = 500;
    private static final Random RANDOM = new Random(20);

    private static HiveColumns x;
    private static int calls;

    public static void main(String[] args) {
        wholeNumbers();
        floats();
        everyKind();
        pairs();
        longSums();
        Due.end();
    }

    // An object is used for 512 calls at most.
    private static void need(int more) {
        if (x == null || calls + more > CALLS_OF_AN_OBJECT) {
            x = new HiveColumns();
            for (int kind = 0; kind <= 7; kind++) {
                x.hold(kind, kind, 2);
            }
            x.hold(8, 7, 24);
            calls = 9;
        }
        calls += more;
    }

    private static void wholeNumbers() {
        for (int shift = 0; shift < 64; shift++) {
            for (long near = -3; near <= 3; near++) {
                widenLong((1L << shift) + near);
                widenLong(-(1L << shift) + near);
                for (int half = 0; half < shift; half++) {
                    // Around what lies halfway between two neighbours of fewer bits.
                    widenLong((1L << shift) + (1L << half) + near);
                    widenLong((1L << shift) + (3L << half) + near);
                    widenLong(-(1L << shift) - (1L << half) + near);
                    widenLong(-(1L << half) + near);
                }
            }
        }
        widenLong(Long.MIN_VALUE);
        widenLong(Long.MAX_VALUE);
        for (int n = 0; n < 50000; n++) {
            widenLong(RANDOM.nextLong() >> RANDOM.nextInt(64));
        }
    }

    private static void widenLong(long number) {
        need(7);
        x.enter(5, 5, 0, number);
        Due.is("float of " + number, x.tell(6, 5, 0), Float.floatToIntBits((float) number));
        Due.is("double of " + number, x.tell(7, 5, 0), Double.doubleToLongBits((double) number));
        x.enter(5, 6, 0, number);
        Due.is("entered as float " + number, x.tell(6, 6, 0), Float.floatToIntBits((float) number));
        x.pass(5, 0, 7, 0);
        Due.is("passed as double " + number, x.tell(7, 7, 0), Double.doubleToLongBits((double) number));
    }

    private static void floats() {
        for (int exponent = 0; exponent <= 255; exponent++) {
            for (int fraction : new int[] {0, 1, 2, 3, 0x400000, 0x400001, 0x7fffff, 0x7ffffe, 0x2aaaaa}) {
                widenFloat(exponent << 23 | fraction);
                widenFloat(1 << 31 | exponent << 23 | fraction);
            }
        }
        for (int bit = 0; bit < 23; bit++) {
            widenFloat(1 << bit);
            widenFloat((1 << bit) - 1);
            widenFloat(1 << 31 | 1 << bit | 1);
        }
        for (int n = 0; n < 50000; n++) {
            widenFloat(RANDOM.nextInt());
        }
    }

    private static void widenFloat(int bits) {
        float number = Float.intBitsToFloat(bits);
        need(5);
        x.enter(6, 6, 0, bits);
        Due.is("float " + bits, x.tell(6, 6, 0), Float.floatToIntBits(number));
        Due.is("double of float " + bits, x.tell(7, 6, 0), Double.doubleToLongBits((double) number));
        x.enter(6, 7, 0, bits);
        Due.is("entered as double " + bits, x.tell(7, 7, 0), Double.doubleToLongBits((double) number));
    }

    private static void everyKind() {
        for (int n = 0; n < 20000; n++) {
            long bits = RANDOM.nextLong();
            need(16);
            for (int kind = 0; kind <= 7; kind++) {
                x.enter(kind, kind, 1, bits);
            }
            Due.is("truth " + bits, x.tell(0, 0, 1), bits & 1);
            Due.is("byte " + bits, x.tell(1, 1, 1), (byte) bits);
            Due.is("short " + bits, x.tell(2, 2, 1), (short) bits);
            Due.is("char " + bits, x.tell(3, 3, 1), (char) bits);
            Due.is("int " + bits, x.tell(4, 4, 1), (int) bits);
            Due.is("long " + bits, x.tell(5, 5, 1), bits);
            Due.is("float of int " + bits, x.tell(6, 4, 1), Float.floatToIntBits((float) (int) bits));
            Due.is("double of short " + bits, x.tell(7, 2, 1), Double.doubleToLongBits((double) (short) bits));
        }
    }

    private static void pairs() {
        long[] edges = edges();
        for (long a : edges) {
            for (long b : edges) {
                addPair(a, b);
            }
        }
        for (int n = 0; n < 300000; n++) {
            long a = RANDOM.nextLong();
            // Exponents near each other, since far ones leave the larger number as it is.
            long exponent = (a >>> 52 & 0x7ff) + RANDOM.nextInt(131) - 65;
            long b = RANDOM.nextLong() & 0x800fffffffffffffL | Math.max(0, Math.min(2047, exponent)) << 52;
            if (RANDOM.nextInt(4) == 0) {
                b &= -1L << RANDOM.nextInt(53);
            }
            addPair(a, b);
            addPair(a, (a ^ Long.MIN_VALUE) + RANDOM.nextInt(9) - 4);
        }
    }

    private static long[] edges() {
        double[] numbers = {
            0, Double.MIN_VALUE, 3 * Double.MIN_VALUE, Double.MIN_NORMAL, Double.MIN_NORMAL - Double.MIN_VALUE,
            2 * Double.MIN_NORMAL, 1, Math.nextUp(1.0), Math.nextDown(1.0), Math.ulp(1.0) / 2, Math.ulp(1.0) / 4,
            Math.nextUp(Math.ulp(1.0) / 2), Math.nextDown(Math.ulp(1.0) / 4), 1.5, 3, 0.1, 1e16, 9007199254740992.0,
            9007199254740993.0 + 2, Double.MAX_VALUE, Math.ulp(Double.MAX_VALUE) / 2,
            Math.nextDown(Math.ulp(Double.MAX_VALUE) / 2), Double.MAX_VALUE / 2, Double.POSITIVE_INFINITY, Double.NaN,
        };
        long[] bits = new long[2 * numbers.length];
        for (int i = 0; i < numbers.length; i++) {
            bits[2 * i] = Double.doubleToRawLongBits(numbers[i]);
            bits[2 * i + 1] = bits[2 * i] ^ Long.MIN_VALUE;
        }
        return bits;
    }

    private static void addPair(long a, long b) {
        double due = 0.0 + Double.longBitsToDouble(a) + Double.longBitsToDouble(b);
        need(3);
        x.enter(7, 7, 0, a);
        x.enter(7, 7, 1, b);
        Due.is("sum of " + a + " and " + b, x.sum(7, 1), Double.doubleToLongBits(due));
    }

    private static void longSums() {
        for (int n = 0; n < 5000; n++) {
            need(25);
            double due = 0.0;
            int spread = 1 + RANDOM.nextInt(60);
            for (int i = 0; i < 24; i++) {
                double number = RANDOM.nextGaussian() * Math.scalb(1.0, RANDOM.nextInt(spread));
                due += number;
                x.enter(7, 8, i, Double.doubleToRawLongBits(number));
            }
            Due.is("sum " + n, x.sum(8, 1), Double.doubleToLongBits(due));
        }
    }
}
