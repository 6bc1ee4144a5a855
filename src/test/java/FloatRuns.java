import java.util.ArrayList;
import java.util.List;
import java.util.Random;

/**
 * Floats against Java's own, on edges and on random bits: functions of the language make two floats of the bits that a run
 * gets as its arguments, and tell the bits of what an operator makes of them.
 */
public final class FloatRuns {
    static final int PAIRS = Integer.getInteger("pairs", 60000);
    static final int MOST_CALLS = 512;
    static final int[] EDGES = {0, 0x80000000, 1, 0x80000001, 2, 3, 0x7fffff, 0x807fffff, 0x800000, 0x80800000, 0x800001,
        0xffffff, 0x1000000, 0x3f800000, 0xbf800000, 0x3f800001, 0x3f7fffff, 0x40000000, 0x4b000000, 0x4b7fffff,
        0x4b800000, 0x4b800001, 0x7f7fffff, 0xff7fffff, 0x7f000000, 0x7f800000, 0xff800000, 0x7fc00000, 0x34000000,
        0x33800000, 0x33800001, 0x5f000000, 0x53800000, 0x53800001, 0x3f000000, 0x3fc00000};
    static final String OPERATORS = "+-*/%<=";
    static final int DECODE = 8;
    static final int SCALE = 9;
    static int wrong = 0;

    static ComptimeBench bench;
    static int calls = MOST_CALLS;

    public static void main(String[] args) {
        Random random = new Random(20261119);
        for (int x : EDGES) {
            for (int y : EDGES) {
                operators(x, y);
            }
        }
        for (int i = 0; i < PAIRS; i++) {
            int x = bits(random);
            operators(x, random.nextInt(3) == 0 ? x + random.nextInt(1 << random.nextInt(30)) : bits(random));
        }
        calls = MOST_CALLS;
        for (int x : EDGES) {
            whole(x);
        }
        for (int i = 0; i < 20000; i++) {
            whole(bits(random));
            long n = random.nextLong() >> 23 + random.nextInt(41);
            free(random.nextInt(3) == 0 ? n >> 17 << 17 : n);
        }
        for (long n : new long[] {0, 1, -1, 16777215, 16777216, 16777217, -16777217, 16777218, 1L << 40, -(1L << 40)}) {
            free(n);
        }
        System.out.println(wrong == 0 ? "floats are as Java's" : wrong + " floats are not as Java's");
        if (wrong != 0) {
            System.exit(1);
        }
    }

    static int bits(Random random) {
        switch (random.nextInt(6)) {
            case 0: return EDGES[random.nextInt(EDGES.length)];
            case 1: return Float.floatToIntBits(random.nextInt(2000) - 1000);
            case 2: return random.nextInt() & 0x81ffffff;
            case 3: return random.nextInt() & 0x87ffffff | 0x3c000000;
            case 4: return Float.floatToIntBits((random.nextInt(4000) - 2000) / 8f);
            default: return random.nextInt();
        }
    }

    // ---- the bench, with a text for each body: kinds ahead of their parts

    static final List<String> WORDS = new ArrayList<>();

    static int node(char kind, int a, int b, int c) {
        calls++;
        return bench.node(kind, a, b, c);
    }

    static int tree(String text) {
        WORDS.clear();
        WORDS.addAll(List.of(text.split(" +")));
        return part();
    }

    static int part() {
        String word = WORDS.remove(0);
        char kind = word.charAt(0);
        int number = word.length() > 1 ? Integer.parseInt(word.substring(1)) : 0;
        switch (kind) {
            case '_': return -1;
            case 'n': case 'p': case 'v': case 'F': return node(kind, number, 0, 0);
            case 'f': return node('k', node('n', number, 0, 0), node('F', 0, 0, 0), 0);
            case 's': return node('s', number, part(), 0);
            case 'x': case 'y': return node(kind, part(), 0, 0);
            case 'c': {
                int b = part();
                return node('c', number, b, part());
            }
            case 'i': {
                int a = part();
                int b = part();
                return node('i', a, b, part());
            }
            default: {
                int a = part();
                return node(kind, a, part(), 0);
            }
        }
    }

    static void function(int declaration, int parameters, String body) {
        calls++;
        bench.function(declaration, parameters, 0, tree(body));
    }

    static void decoding() {
        bench = new ComptimeBench();
        calls = 0;
        // a float times 2 to a whole number: each bit of this squares the factor, so that nothing is cut on the way
        function(SCALE, 2, "; s0 p0 ; s1 p1 ; s2 i < p1 n0 / f1 f2 f2 "
                + "; L v1 ; i % v1 n2 s0 * v0 v2 n0 ; s2 * v2 v2 s1 / v1 n2 v0");
        function(DECODE, 1, "; s0 i < p0 n0 - p0 n-2147483648 p0 ; s1 / v0 n8388608 ; s2 k % v0 n8388608 F "
                + "* i < p0 n0 f-1 f1 i = v1 n255 i = v2 f0 / f1 f0 / f0 f0 "
                + "i v1 c" + SCALE + " + v2 n8388608 - v1 n150 c" + SCALE + " v2 - v1 n149");
    }

    static void ready(boolean forOperators) {
        if (calls + 20 < MOST_CALLS) {
            return;
        }
        decoding();
        if (forOperators) {
            for (int i = 0; i < OPERATORS.length(); i++) {
                char kind = OPERATORS.charAt(i);
                String sum = kind + " c" + DECODE + " p0 _ c" + DECODE + " p1 _";
                function(i, 2, i < 5 ? "x " + sum : sum);
            }
        } else {
            function(0, 1, "k c" + DECODE + " p0 _ y n0");
            function(1, 2, "x k + * k p0 y n0 n1048576 k p1 y n0 F");
        }
    }

    /** What a function comes to: its number, or the fault's letter beyond all numbers. */
    static long answer(int declaration, int x, int y) {
        calls += 2;
        char end = bench.plain(declaration, x, y);
        return end == 'v' ? bench.result() : end * 1000000000000000L;
    }

    static final long NOT_THIS_NUMBER = 'c' * 1000000000000000L;

    // ---- what is compared

    static void operators(int x, int y) {
        ready(true);
        float a = Float.intBitsToFloat(x);
        float b = Float.intBitsToFloat(y);
        float[] due = {a + b, a - b, a * b, a / b, a % b};
        for (int i = 0; i < due.length; i++) {
            same(OPERATORS.charAt(i), x, y, answer(i, x, y), Float.floatToIntBits(due[i]));
        }
        same('<', x, y, answer(5, x, y), a < b ? 1 : 0);
        same('=', x, y, answer(6, x, y), a == b ? 1 : 0);
    }

    static void whole(int x) {
        ready(false);
        float f = Float.intBitsToFloat(x);
        boolean is = f == Math.rint(f) && Math.abs(f) <= 1099511627776f;
        same('k', x, 0, answer(0, x, 0), is ? (long) f : NOT_THIS_NUMBER);
    }

    static void free(long n) {
        if (Math.abs(n) > 1L << 40) {
            return;
        }
        ready(false);
        int high = (int) (n >> 20);
        int low = (int) (n & (1 << 20) - 1);
        long due = (long) (double) (float) n == n ? Float.floatToIntBits((float) n) : NOT_THIS_NUMBER;
        same('F', high, low, answer(1, high, low), due);
    }

    static void same(char kind, int x, int y, long got, long due) {
        if (got != due && wrong++ < 20) {
            System.out.println(kind + " of " + Integer.toHexString(x) + " and " + Integer.toHexString(y) + " answered "
                    + Long.toHexString(got) + ", due is " + Long.toHexString(due));
        }
    }
}
