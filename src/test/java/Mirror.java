import java.lang.reflect.Array;

/**
 * The document told a second time, with real Java arrays: what goes into what, and which cause comes
 * first, is left to java.lang.reflect.Array and the exceptions that it throws.
 */
final class Mirror {
    private static class Hive {
        final int number;
        final int store;

        Hive(int number, int store) {
            this.number = number;
            this.store = store;
        }

        int hum() {
            return store;
        }
    }

    private static final class WarmHive extends Hive {
        WarmHive(int number, int store) {
            super(number, store);
        }

        @Override
        int hum() {
            return 1000 + 2 * store;
        }
    }

    private interface Deed {
        long does();
    }

    private static final Class<?>[] ELEMENTS = {
        boolean.class, byte.class, short.class, char.class, int.class, long.class, float.class, double.class,
        Hive.class, WarmHive.class, int[].class,
    };

    private final Object[] columns = new Object[16];
    private final Hive[] hives = new Hive[30];
    private final int[] counts = new int[4];
    private int failed = 0;

    private static boolean column(int... all) {
        for (int c : all) {
            if (c < 0 || c > 15) {
                return false;
            }
        }
        return true;
    }

    private static boolean clerk(int clerk) {
        return clerk >= 0 && clerk <= 7;
    }

    private boolean known(int hive) {
        return hive >= 0 && hive < counts[0];
    }

    private long attempt(Deed deed) {
        try {
            long answer = deed.does();
            failed = 0;
            return answer;
        } catch (NullPointerException e) {
            return fail(1);
        } catch (ArrayIndexOutOfBoundsException e) {
            return fail(3);
        } catch (IllegalArgumentException e) {
            return fail(2);
        }
    }

    private int fail(int cause) {
        failed = cause;
        counts[cause]++;
        return -10 - cause;
    }

    long hold(int column, int sort, int n) {
        if (!column(column)) {
            return -1001;
        }
        if (sort == 12) {
            columns[column] = null;
            return 1;
        }
        if (sort < 0 || sort > 10 || n < 0 || n > 24) {
            return -1002;
        }
        columns[column] = Array.newInstance(ELEMENTS[sort], n);
        return 1;
    }

    long share(int column, int from) {
        if (!column(column, from)) {
            return -1001;
        }
        columns[column] = columns[from];
        return 1;
    }

    long keep(int column, int hive) {
        if (!column(column) || !known(hive)) {
            return -1001;
        }
        columns[column] = hives[hive];
        return 1;
    }

    long hive(int store, boolean warm) {
        if (store < 0 || store > 1000000) {
            return -1002;
        }
        if (counts[0] == 30) {
            return -1003;
        }
        hives[counts[0]] = warm ? new WarmHive(counts[0], store) : new Hive(counts[0], store);
        return counts[0]++;
    }

    long places(int column) {
        return column(column) ? attempt(() -> Array.getLength(columns[column])) : -1001;
    }

    long enter(int clerk, int column, int i, long bits) {
        return clerk(clerk) && column(column) ? attempt(() -> set(clerk, columns[column], i, bits)) : -1001;
    }

    private static long set(int clerk, Object row, int i, long bits) {
        switch (clerk) {
            case 0: Array.setBoolean(row, i, (bits & 1) == 1); break;
            case 1: Array.setByte(row, i, (byte) bits); break;
            case 2: Array.setShort(row, i, (short) bits); break;
            case 3: Array.setChar(row, i, (char) bits); break;
            case 4: Array.setInt(row, i, (int) bits); break;
            case 5: Array.setLong(row, i, bits); break;
            case 6: Array.setFloat(row, i, Float.intBitsToFloat((int) bits)); break;
            default: Array.setDouble(row, i, Double.longBitsToDouble(bits)); break;
        }
        return 1;
    }

    long tell(int clerk, int column, int i) {
        return clerk(clerk) && column(column) ? attempt(() -> get(clerk, columns[column], i)) : -1001;
    }

    private static long get(int clerk, Object row, int i) {
        switch (clerk) {
            case 0: return Array.getBoolean(row, i) ? 1 : 0;
            case 1: return Array.getByte(row, i);
            case 2: return Array.getShort(row, i);
            case 3: return Array.getChar(row, i);
            case 4: return Array.getInt(row, i);
            case 5: return Array.getLong(row, i);
            case 6: return Float.floatToIntBits(Array.getFloat(row, i));
            default: return Double.doubleToLongBits(Array.getDouble(row, i));
        }
    }

    private static long put(Object row, int k, Object value) {
        Array.set(row, k, value);
        return 1;
    }

    long pass(int from, int i, int to, int k) {
        return column(from, to) ? attempt(() -> put(columns[to], k, Array.get(columns[from], i))) : -1001;
    }

    long copy(int from, int to) {
        if (!column(from, to)) {
            return -1001;
        }
        long n = attempt(() -> Array.getLength(columns[from]));
        for (int i = 0; i < n; i++) {
            int at = i;
            long answer = attempt(() -> put(columns[to], at, Array.get(columns[from], at)));
            if (answer != 1) {
                return i == 0 ? answer : i;
            }
        }
        return n;
    }

    long stand(int column, int i, int hive) {
        if (!column(column) || (hive != -1 && !known(hive))) {
            return -1001;
        }
        return attempt(() -> put(columns[column], i, hive == -1 ? null : hives[hive]));
    }

    private Hive found(int column, int i) {
        Object held = columns[column];
        Object thing = held instanceof Hive ? held : Array.get(held, i);
        if (thing != null && !(thing instanceof Hive)) {
            throw new IllegalArgumentException();
        }
        return (Hive) thing;
    }

    long standing(int column, int i) {
        if (!column(column)) {
            return -1001;
        }
        return attempt(() -> {
            Hive hive = found(column, i);
            return hive == null ? -1 : hive.number;
        });
    }

    long hum(int column, int i) {
        return column(column) ? attempt(() -> found(column, i).hum()) : -1001;
    }

    long lay(int column, int i, int sheet) {
        return column(column, sheet) ? attempt(() -> put(columns[column], i, columns[sheet])) : -1001;
    }

    long sheet(int clerk, int column, int i, int j) {
        if (!clerk(clerk) || !column(column)) {
            return -1001;
        }
        return attempt(() -> get(clerk, Array.get(columns[column], i), j));
    }

    long sum(int column, int what) {
        if (!column(column)) {
            return -1001;
        }
        if (what != 0 && what != 1) {
            return -1002;
        }
        return attempt(() -> what == 0 ? sumOfLongs(columns[column]) : sumOfDoubles(columns[column]));
    }

    private static long sumOfLongs(Object row) {
        long total = 0;
        for (int i = 0; i < Array.getLength(row); i++) {
            total += Array.getLong(row, i);
        }
        return total;
    }

    private static long sumOfDoubles(Object row) {
        double total = 0.0;
        for (int i = 0; i < Array.getLength(row); i++) {
            total += Array.getDouble(row, i);
        }
        return Double.doubleToLongBits(total);
    }

    long highest(int column, int what) {
        if (!column(column)) {
            return -1001;
        }
        if (what != 0 && what != 1) {
            return -1002;
        }
        return attempt(() -> highestOf(columns[column], what == 1));
    }

    private static long highestOf(Object row, boolean doubles) {
        int n = Array.getLength(row);
        int best = -1;
        for (int i = 0; i < n; i++) {
            boolean top = !doubles || !Double.isNaN(Array.getDouble(row, i));
            for (int j = 0; j < n; j++) {
                boolean below = doubles
                        ? Array.getDouble(row, i) < Array.getDouble(row, j)
                        : Array.getLong(row, i) < Array.getLong(row, j);
                top &= !below;
            }
            best = top ? i : best;
        }
        return best;
    }

    long same(int a, int b) {
        if (!column(a, b)) {
            return -1001;
        }
        return columns[a] == columns[b] ? 1 : 0;
    }

    long sort(int column) {
        if (!column(column)) {
            return -1001;
        }
        Object held = columns[column];
        if (held == null) {
            return 12;
        }
        for (int sort = 0; sort < ELEMENTS.length; sort++) {
            if (held.getClass().getComponentType() == ELEMENTS[sort]) {
                return sort;
            }
        }
        return 11;
    }

    long failed() {
        return failed;
    }

    long count(int cause) {
        return cause < 0 || cause > 3 ? -1002 : counts[cause];
    }
}
