import java.lang.reflect.Method;
import java.util.Random;

/** The arithmetic of floats by their bits against Java's own floats, on edges and on random bits. */
public final class FloatRuns {
    static final int[] EDGES = {0, 0x80000000, 1, 0x80000001, 2, 3, 0x7fffff, 0x807fffff, 0x800000, 0x80800000, 0x800001,
        0xffffff, 0x1000000, 0x3f800000, 0xbf800000, 0x3f800001, 0x3f7fffff, 0x40000000, 0x4b000000, 0x4b7fffff,
        0x4b800000, 0x4b800001, 0x7f7fffff, 0xff7fffff, 0x7f000000, 0x7f800000, 0xff800000, 0x7fc00000, 0x34000000,
        0x33800000, 0x33800001, 0x5f000000, 0x53800000, 0x53800001, 0x3f000000, 0x3fc00000};
    static int wrong = 0;

    public static void main(String[] args) throws Exception {
        Class<?> floats = Class.forName("ComptimeBench$Floats");
        Method operate = floats.getDeclaredMethod("operate", int.class, int.class, int.class);
        operate.setAccessible(true);
        Class<?> value = Class.forName("ComptimeBench$Value");
        Method become = value.getDeclaredMethod("become", long.class, int.class);
        become.setAccessible(true);
        Random random = new Random(20261119);
        for (int x : EDGES) {
            for (int y : EDGES) {
                all(operate, x, y);
            }
        }
        for (int i = 0; i < 300000; i++) {
            int x = bits(random);
            int y = random.nextInt(3) == 0 ? x + random.nextInt(1 << random.nextInt(30)) : bits(random);
            all(operate, x, y);
            whole(become, x);
        }
        for (int i = 0; i < 200000; i++) {
            long n = random.nextLong() >> 23 + random.nextInt(41);
            free(become, random.nextInt(3) == 0 ? (n >> 17 << 17) : n);
        }
        for (long n : new long[] {0, 1, -1, 16777215, 16777216, 16777217, -16777217, 16777218, 1L << 40, -(1L << 40)}) {
            free(become, n);
        }
        System.out.println(wrong == 0 ? "floats are as Java's" : wrong + " floats are not as Java's");
        if (wrong != 0) {
            System.exit(1);
        }
    }

    static int bits(Random random) {
        switch (random.nextInt(6)) {
            case 0: return EDGES[random.nextInt(EDGES.length)];
            case 1: return Float.floatToIntBits(random.nextInt(2000) - 1000);
            case 2: return random.nextInt() & 0x81ffffff;
            case 3: return random.nextInt() & 0x87ffffff | 0x3c000000;
            case 4: return Float.floatToIntBits((random.nextInt(4000) - 2000) / 8f);
            default: return Float.floatToIntBits(Float.intBitsToFloat(random.nextInt()));
        }
    }

    static void all(Method operate, int x, int y) throws Exception {
        float a = Float.intBitsToFloat(x);
        float b = Float.intBitsToFloat(y);
        x = Float.floatToIntBits(a);
        y = Float.floatToIntBits(b);
        due(operate, '+', x, y, floating(a + b));
        due(operate, '-', x, y, floating(a - b));
        due(operate, '*', x, y, floating(a * b));
        due(operate, '/', x, y, floating(a / b));
        due(operate, '%', x, y, floating(a % b));
        due(operate, '<', x, y, bit(a < b));
        due(operate, '=', x, y, bit(a == b));
        due(operate, 'P', x, y, (long) 't' << 8 | 5);
        due(operate, 'Q', x, y, (long) 't' << 8 | 5);
    }

    static long floating(float f) {
        return (long) Float.floatToIntBits(f) << 8 | 139;
    }

    static long bit(boolean set) {
        return (set ? 1L : 0L) << 8 | 41;
    }

    static void due(Method operate, char kind, int x, int y, long due) throws Exception {
        same(kind + " of " + Integer.toHexString(x) + " and " + Integer.toHexString(y), (long) operate.invoke(null, kind, x, y), due);
    }

    static void whole(Method become, int x) throws Exception {
        float f = Float.intBitsToFloat(x);
        boolean is = f == Math.rint(f) && Math.abs(f) <= 1099511627776f;
        long due = is ? (long) f << 8 | 40 : (long) 'c' << 8 | 5;
        same("k of float " + f, (long) become.invoke(null, floating(f), 0), due);
    }

    static void free(Method become, long n) throws Exception {
        if (Math.abs(n) > 1L << 40) {
            return;
        }
        float f = (float) n;
        long due = (long) (double) f == n ? floating(f) : (long) 'c' << 8 | 5;
        same("k of " + n, (long) become.invoke(null, n << 8 | 40, 99), due);
    }

    static void same(String what, long got, long due) {
        if (got != due && wrong++ < 20) {
            System.out.println(what + " answered " + Long.toHexString(got) + ", due is " + Long.toHexString(due));
        }
    }
}
