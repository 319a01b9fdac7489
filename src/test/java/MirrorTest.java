import java.util.Random;

/** Runs of calls, drawn the same way each time, whose answers must be those of the mirror. */
public final class MirrorTest {
    private static final int RUNS = 3000, CALLS = 512;
    private static final long[] BITS = {
        0, 1, -1, -3, 127, 128, 32767, 32768, 65535, 16777217, Integer.MAX_VALUE, Integer.MIN_VALUE,
        Long.MAX_VALUE, Long.MIN_VALUE, 9007199254740993L, 0x7f800000, 0xff800000L, 0x7f800001, 0x3fc00000, 0x80000000L,
        0x7ff0000000000000L, 0xfff0000000000000L, 0x7ff0000000000001L, 0x3ff8000000000000L, 0xbff8000000000000L,
        0x0000000000000001L, 0x7fefffffffffffffL,
    };

    private final Random random;
    private final HiveColumns x = new HiveColumns();
    private final Mirror mirror = new Mirror();
    private final int columnsUsed;
    private final int placesUsed;
    private final StringBuilder run = new StringBuilder();

    private MirrorTest(long seed) {
        random = new Random(seed);
        // Few columns and places bring the calls of a run together; all of them reach the edges.
        columnsUsed = 2 + random.nextInt(15);
        placesUsed = random.nextInt(4) == 0 ? 24 : 1 + random.nextInt(4);
    }

    public static void main(String[] args) {
        for (int seed = 1; seed <= RUNS && Due.allRight(); seed++) {
            new MirrorTest(seed).calls(seed);
        }
        Due.end();
    }

    private void calls(int seed) {
        for (int n = 0; n < CALLS; n += 2) {
            call(seed);
            due(seed, "failed()", x.failed(), mirror.failed());
            if (!Due.allRight()) {
                System.out.println(run);
                return;
            }
        }
    }

    private void due(int seed, String call, long got, long want) {
        run.append(call).append(" = ").append(want).append('\n');
        Due.is("run " + seed + ": " + call, got, want);
    }

    private boolean seldom() {
        return random.nextInt(60) == 0;
    }

    private int column() {
        return seldom() ? random.nextInt(40) - 20 : random.nextInt(columnsUsed);
    }

    private int clerk() {
        return seldom() ? random.nextInt(20) - 10 : random.nextInt(8);
    }

    private int place() {
        return random.nextInt(12) == 0 ? random.nextInt(60) - 30 : random.nextInt(placesUsed);
    }

    private int hiveNumber() {
        return seldom() ? random.nextInt(80) - 40 : random.nextInt((int) mirror.count(0) + 1) - 1;
    }

    private int what() {
        return seldom() ? random.nextInt(9) - 4 : random.nextInt(2);
    }

    private long bits() {
        return random.nextBoolean() ? random.nextLong() : BITS[random.nextInt(BITS.length)];
    }

    private void call(int seed) {
        int a = column(), b = column(), i = place(), k = place(), clerk = clerk();
        switch (random.nextInt(26)) {
            case 0: case 1: case 2: hold(seed, a); break;
            case 3: due(seed, "share(" + a + ", " + b + ")", x.share(a, b), mirror.share(a, b)); break;
            case 4: int kept = hiveNumber();
                due(seed, "keep(" + a + ", " + kept + ")", x.keep(a, kept), mirror.keep(a, kept)); break;
            case 5: hive(seed); break;
            case 6: due(seed, "places(" + a + ")", x.places(a), mirror.places(a)); break;
            case 7: case 8: case 9: long bits = bits();
                due(seed, "enter(" + clerk + ", " + a + ", " + i + ", " + bits + ")",
                        x.enter(clerk, a, i, bits), mirror.enter(clerk, a, i, bits)); break;
            case 10: due(seed, "tell(" + clerk + ", " + a + ", " + i + ")",
                        x.tell(clerk, a, i), mirror.tell(clerk, a, i)); break;
            case 11: case 12: due(seed, "pass(" + a + ", " + i + ", " + b + ", " + k + ")",
                        x.pass(a, i, b, k), mirror.pass(a, i, b, k)); break;
            case 13: due(seed, "copy(" + a + ", " + b + ")", x.copy(a, b), mirror.copy(a, b)); break;
            case 14: case 15: int hive = hiveNumber();
                due(seed, "stand(" + a + ", " + i + ", " + hive + ")",
                        x.stand(a, i, hive), mirror.stand(a, i, hive)); break;
            case 16: due(seed, "standing(" + a + ", " + i + ")", x.standing(a, i), mirror.standing(a, i)); break;
            case 17: due(seed, "hum(" + a + ", " + i + ")", x.hum(a, i), mirror.hum(a, i)); break;
            case 18: case 19: due(seed, "lay(" + a + ", " + i + ", " + b + ")",
                        x.lay(a, i, b), mirror.lay(a, i, b)); break;
            case 20: due(seed, "sheet(" + clerk + ", " + a + ", " + i + ", " + k + ")",
                        x.sheet(clerk, a, i, k), mirror.sheet(clerk, a, i, k)); break;
            default: whole(seed, a, b); break;
        }
    }

    private void whole(int seed, int a, int b) {
        int what = what(), cause = random.nextInt(6) - 1;
        switch (random.nextInt(5)) {
            case 0: due(seed, "sum(" + a + ", " + what + ")", x.sum(a, what), mirror.sum(a, what)); break;
            case 1: due(seed, "highest(" + a + ", " + what + ")", x.highest(a, what), mirror.highest(a, what)); break;
            case 2: due(seed, "same(" + a + ", " + b + ")", x.same(a, b), mirror.same(a, b)); break;
            case 3: due(seed, "sort(" + a + ")", x.sort(a), mirror.sort(a)); break;
            default: due(seed, "count(" + cause + ")", x.count(cause), mirror.count(cause)); break;
        }
    }

    private void hold(int seed, int column) {
        int sort = seldom() ? random.nextInt(30) - 8 : random.nextInt(3) == 0 ? 7 + random.nextInt(4) : random.nextInt(11);
        int n = seldom() ? random.nextInt(60) - 30 : random.nextInt(placesUsed + 1);
        due(seed, "hold(" + column + ", " + sort + ", " + n + ")", x.hold(column, sort, n), mirror.hold(column, sort, n));
    }

    private void hive(int seed) {
        int store = seldom() ? random.nextInt() : random.nextInt(1000001);
        boolean warm = random.nextBoolean();
        due(seed, "hive(" + store + ", " + warm + ")", x.hive(store, warm), mirror.hive(store, warm));
    }
}
