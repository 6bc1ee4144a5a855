import java.util.Arrays;
import java.util.NoSuchElementException;

/** A language that works out while it is built what is known by then. README.md tells how its parts hang together. */
public final class ComptimeBench {
    private final Program program;
    private final Store kept;
    private final Builder builder;
    private final Store fresh;
    private final Builder checker;
    private final Runner runner;
    private Made built;

    public ComptimeBench() {
        program = new Program();
        kept = new Store();
        builder = new Builder(program, kept);
        fresh = new Store();
        checker = new Builder(program, fresh);
        runner = new Runner(program, kept);
    }

    // ---- nodes and declarations

    public int node(char kind, int a, int b, int c) throws IllegalArgumentException, IllegalStateException {
        if (!program.mayBe(kind, a, b, c)) {
            throw new IllegalArgumentException("no such kind, number or part");
        }
        int depth = program.depthOf(kind, a, b, c);
        if (program.count >= Program.MOST_NODES || depth > Program.MOST_DEPTH) {
            throw new IllegalStateException("too many nodes, or too deep");
        }
        return program.add(kind, a, b, c, depth);
    }

    public int constant(int declaration, int body) throws IllegalArgumentException {
        requireDeclaration(declaration);
        requireNode(body);
        program.declare(declaration, Program.CONSTANT, 0, 0, body);
        return forget(declaration);
    }

    public int function(int declaration, int parameters, int known, int body) throws IllegalArgumentException {
        requireDeclaration(declaration);
        requireNode(body);
        if (parameters < 0 || parameters > 2 || known < 0 || known >= 1 << parameters) {
            throw new IllegalArgumentException("no such parameters");
        }
        program.declare(declaration, Program.FUNCTION, parameters, known, body);
        return forget(declaration);
    }

    public int remove(int declaration) throws IllegalArgumentException, NoSuchElementException {
        requireDeclaration(declaration);
        if (program.form[declaration] == Program.ABSENT) {
            throw new NoSuchElementException("no such declaration");
        }
        program.declare(declaration, Program.ABSENT, 0, 0, 0);
        return forget(declaration);
    }

    // ---- builds

    public char build(int declaration) throws IllegalArgumentException {
        requireDeclaration(declaration);
        char end = builder.makeAll(declaration);
        if (end == '-') {
            built = builder.root;
        }
        return end;
    }

    public int trace() {
        return builder.traced;
    }

    public int traceAt(int index) throws IndexOutOfBoundsException {
        if (index < 0 || index >= builder.traced) {
            throw new IndexOutOfBoundsException("no such thing in the trace");
        }
        return builder.trace[index];
    }

    public int made() {
        return kept.mades;
    }

    public int constants() {
        return kept.constants;
    }

    public int calls() {
        return kept.calls;
    }

    public int looked() {
        return builder.begun + builder.worker.begun;
    }

    public int worked() {
        return builder.worker.spent;
    }

    public int nodesLeft() {
        return kept.leftInAll();
    }

    public char kindOf(int declaration) throws IllegalArgumentException, NoSuchElementException {
        requireDeclaration(declaration);
        return Value.letter(requireKept(declaration).value);
    }

    public long numberOf(int declaration) throws IllegalArgumentException, NoSuchElementException {
        requireDeclaration(declaration);
        return Value.number(requireKept(declaration).value);
    }

    // ---- runs

    public char run(int first, int second) throws IllegalStateException {
        if (built == null) {
            throw new IllegalStateException("nothing is built");
        }
        return runner.runOf(built.declaration, built, first, second);
    }

    public char plain(int declaration, int first, int second) throws IllegalArgumentException {
        requireDeclaration(declaration);
        return runner.runOf(declaration, null, first, second);
    }

    public char resultKind() throws NoSuchElementException {
        requireResult();
        return Value.letter(runner.end);
    }

    public long result() throws NoSuchElementException {
        requireResult();
        return Value.number(runner.end);
    }

    public int outputs() {
        return runner.puts;
    }

    public long output(int index) throws IndexOutOfBoundsException {
        if (index < 0 || index >= runner.puts || index >= Runner.MOST_OUTPUTS) {
            throw new IndexOutOfBoundsException("no such output");
        }
        return Value.number(runner.put[index]);
    }

    public int steps() {
        return runner.spent;
    }

    // ---- figures

    public float valueShare() throws ArithmeticException {
        if (runner.runs == 0) {
            throw new ArithmeticException("no runs");
        }
        return (float) runner.valued / (float) runner.runs;
    }

    public double meanLeft() throws ArithmeticException {
        if (kept.mades == 0) {
            throw new ArithmeticException("no made functions");
        }
        return (double) kept.leftInAll() / (double) kept.mades;
    }

    public boolean isWhole() {
        if (built == null) {
            return true;
        }
        fresh.dropAll();
        return checker.makeAll(built.declaration) == '-' && fresh.isWithin(kept);
    }

    private int forget(int declaration) {
        int dropped = kept.dropLookers(declaration);
        if (built != null && built.doomed) {
            built = null;
        }
        return dropped;
    }

    private static void requireDeclaration(int declaration) {
        if (declaration < 0 || declaration >= Program.DECLARATIONS) {
            throw new IllegalArgumentException("no such number of a declaration");
        }
    }

    private void requireNode(int node) {
        if (!program.isNode(node)) {
            throw new IllegalArgumentException("no such node");
        }
    }

    private Thing requireKept(int declaration) {
        Thing thing = kept.findThing(Thing.CONSTANT + declaration, Value.NOTHING, Value.NOTHING);
        if (thing == null) {
            throw new NoSuchElementException("no such constant is kept");
        }
        return thing;
    }

    private void requireResult() {
        if (!Value.isKnown(runner.end)) {
            throw new NoSuchElementException("no value of a run");
        }
    }

    /**
     * A value as one long, its number in the upper bits and what it is in the lowest eight, so that two values are
     * the same just if the longs are. What a node may have instead of a value (a fault, a stand-in) has this form, too.
     */
    private static final class Value {
        static final int TYPE = 1;
        static final int ERROR = 2;
        static final int NONE = 3;
        static final int FAULT = 5;
        static final int STAND_IN = 6;
        static final int LEAST_NUMBER = 8;
        static final int FREE_NUMBER = 40;

        static final long UNSEEN = 0;
        static final long NOTHING = 3;
        static final long UNKNOWN = 4;

        /** Types by the numbers that the face tells of them: whole ones by their bits, less than 0 if signed. */
        static final int FREE = 0;
        static final int FLOAT = 99;
        static final int SIGNED_32 = -32;

        static final long MOST_FREE = 1L << 40;

        static long of(int what, long number) {
            return number << 8 | what;
        }

        static long ofType(int type, long number) {
            return number << 8 | FREE_NUMBER + type;
        }

        static long bit(boolean set) {
            return (set ? 1L : 0L) << 8 | FREE_NUMBER + 1;
        }

        static long fault(char letter) {
            return (long) letter << 8 | FAULT;
        }

        static int what(long value) {
            return (int) (value & 255);
        }

        static long number(long value) {
            return value >> 8;
        }

        static int type(long value) {
            return (int) (value & 255) - FREE_NUMBER;
        }

        static boolean isNumber(long value) {
            return (value & 255) >= LEAST_NUMBER;
        }

        static boolean isWholeNumber(long value) {
            return (value & 255) >= LEAST_NUMBER && (value & 255) != FREE_NUMBER + FLOAT;
        }

        static boolean isError(long value) {
            return (value & 255) == ERROR;
        }

        static boolean isFault(long value) {
            return (value & 255) == FAULT;
        }

        static boolean isKnown(long value) {
            int what = (int) (value & 255);
            return what >= LEAST_NUMBER || what >= TYPE && what <= NONE;
        }

        static char letter(long value) {
            switch (what(value)) {
                case TYPE: return 't';
                case ERROR: return 'e';
                case NONE: return '-';
                case FREE_NUMBER: return 'n';
                case FREE_NUMBER + FLOAT: return 'f';
                default: return 'w';
            }
        }

        static long least(int type) {
            if (type == FREE) {
                return -MOST_FREE;
            }
            return type > 0 ? 0 : -(1L << -type - 1);
        }

        static long most(int type) {
            if (type == FREE) {
                return MOST_FREE;
            }
            return type > 0 ? (1L << type) - 1 : (1L << -type - 1) - 1;
        }

        static long inType(int type, long number, char otherwise) {
            return number < least(type) || number > most(type) ? fault(otherwise) : ofType(type, number);
        }

        /** What 'k' makes of a number or a float. */
        static long become(long value, int type) {
            int from = type(value);
            long number = number(value);
            if (from == FLOAT && type == FLOAT) {
                return value;
            }
            if (type == FLOAT) {
                int bits = number == 0 ? 0 : Floats.round(number < 0, Math.abs(number), 0);
                return Floats.whole(bits) == number ? ofType(FLOAT, bits) : fault('c');
            }
            return inType(type, from == FLOAT ? Floats.whole((int) number) : number, 'c');
        }

        /** The kinds of one part: 't', 'y', 'z' and 'x'. */
        static long measure(int kind, int signed, long part) {
            long number = number(part);
            switch (kind) {
                case 't':
                    return isWholeNumber(part) && number >= 1 && number <= 32
                            ? of(TYPE, signed == 1 ? -number : number) : fault('t');
                case 'y':
                    return isNumber(part) ? of(TYPE, type(part)) : fault('t');
                case 'z':
                    return what(part) == TYPE ? ofType(FREE, number == FLOAT ? 32 : Math.abs(number)) : fault('t');
                default:
                    return type(part) == FLOAT ? ofType(SIGNED_32, number) : fault('t');
            }
        }

        /** The kinds of two parts: the operators and 'k'. */
        static long operate(int kind, long x, long y) {
            if (kind == 'k') {
                return isNumber(x) && what(y) == TYPE ? become(x, (int) number(y)) : fault('t');
            }
            if (!isNumber(x) || !isNumber(y)) {
                return kind == '=' ? bit(x == y) : fault('t');
            }
            long left = type(x) == FREE ? become(x, type(y)) : x;
            long right = type(y) == FREE ? become(y, type(x)) : y;
            if (isFault(left) || isFault(right)) {
                return fault('c');
            }
            if (type(left) != type(right)) {
                return fault('t');
            }
            if (type(left) == FLOAT) {
                return Floats.operate(kind, (int) number(left), (int) number(right));
            }
            return operateWhole(kind, type(left), number(left), number(right));
        }

        static long operateWhole(int kind, int type, long x, long y) {
            switch (kind) {
                case '+': return inType(type, x + y, 'o');
                case '-': return inType(type, x - y, 'o');
                case '*': return inType(type, product(x, y), 'o');
                case '/': return y == 0 ? fault('z') : inType(type, x / y, 'o');
                case '%': return y == 0 ? fault('z') : inType(type, x % y, 'o');
                case '<': return bit(x < y);
                case '=': return bit(x == y);
                case 'P': return type == FREE ? fault('t') : ofType(type, around(type, x + y));
                default: return type == FREE ? fault('t')
                        : ofType(type, Math.max(least(type), Math.min(most(type), x + y)));
            }
        }

        /** Beyond the numbers of all types it is any number there, so that a long never runs over. */
        static long product(long x, long y) {
            boolean far = x != 0 && Math.abs(y) > 2 * MOST_FREE / Math.abs(x);
            return far ? 4 * MOST_FREE : x * y;
        }

        static long around(int type, long number) {
            int away = 64 - Math.abs(type);
            return type > 0 ? number << away >>> away : number << away >> away;
        }
    }

    /** Floats by their bits: the rules allow no way from a Java float to its bits, no '%', and nothing that is NaN. */
    private static final class Floats {
        static final int SIGN = 0x80000000;
        static final int INFINITE = 0x7f800000;
        static final int NOT_A_NUMBER = 0x7fc00000;
        static final int LEAST_EXPONENT = -149;
        static final int MOST_EXPONENT = 104;
        static final long NO_WHOLE = 1L << 63;

        static long operate(int kind, int x, int y) {
            boolean ordered = !isNotANumber(x) && !isNotANumber(y);
            switch (kind) {
                case '+': return Value.ofType(Value.FLOAT, add(x, y));
                case '-': return Value.ofType(Value.FLOAT, add(x, y ^ SIGN));
                case '*': return Value.ofType(Value.FLOAT, multiply(x, y));
                case '/': return Value.ofType(Value.FLOAT, divide(x, y));
                case '%': return Value.ofType(Value.FLOAT, remain(x, y));
                case '<': return Value.bit(ordered && order(x) < order(y));
                case '=': return Value.bit(ordered && order(x) == order(y));
                default: return Value.fault('t');
            }
        }

        static boolean isNotANumber(int x) {
            return (x & ~SIGN) > INFINITE;
        }

        static boolean isInfinite(int x) {
            return (x & ~SIGN) == INFINITE;
        }

        static boolean isZero(int x) {
            return (x & ~SIGN) == 0;
        }

        /** Grows with the number that the bits are; both zeros are 0. */
        static int order(int x) {
            return x < 0 ? -(x & ~SIGN) : x;
        }

        /** A finite float is its mantissa times 2 to its exponent. */
        static int exponent(int x) {
            return Math.max(1, x >>> 23 & 255) - 150;
        }

        static long mantissa(int x) {
            return (x >>> 23 & 255) == 0 ? x & 0x7fffff : x & 0x7fffff | 0x800000;
        }

        static int add(int x, int y) {
            if (isNotANumber(x) || isNotANumber(y) || isInfinite(x) && isInfinite(y) && x != y) {
                return NOT_A_NUMBER;
            }
            if (isInfinite(x) || isInfinite(y)) {
                return isInfinite(x) ? x : y;
            }
            int great = exponent(x) < exponent(y) ? y : x;
            int small = exponent(x) < exponent(y) ? x : y;
            int apart = exponent(great) - exponent(small);
            // Further apart than this the small one only tips the rounding, so its sign stands for it.
            int shift = Math.min(apart, 30);
            long below = small < 0 ? -mantissa(small) : mantissa(small);
            long above = (great < 0 ? -mantissa(great) : mantissa(great)) << shift;
            long sum = above + (apart > shift ? Long.signum(below) : below);
            if (sum == 0) {
                return x & y & SIGN;
            }
            return round(sum < 0, Math.abs(sum), exponent(great) - shift);
        }

        static int multiply(int x, int y) {
            int sign = (x ^ y) & SIGN;
            if (isNotANumber(x) || isNotANumber(y) || isInfinite(x) && isZero(y) || isZero(x) && isInfinite(y)) {
                return NOT_A_NUMBER;
            }
            if (isInfinite(x) || isInfinite(y)) {
                return sign | INFINITE;
            }
            if (isZero(x) || isZero(y)) {
                return sign;
            }
            return round(sign != 0, mantissa(x) * mantissa(y), exponent(x) + exponent(y));
        }

        static int divide(int x, int y) {
            int sign = (x ^ y) & SIGN;
            if (isNotANumber(x) || isNotANumber(y) || isInfinite(x) && isInfinite(y) || isZero(x) && isZero(y)) {
                return NOT_A_NUMBER;
            }
            long divisor = mantissa(y);
            if (isInfinite(x) || divisor == 0) {
                return sign | INFINITE;
            }
            if (isZero(x) || isInfinite(y)) {
                return sign;
            }
            int shift = Long.numberOfLeadingZeros(mantissa(x)) - 1;
            long dividend = mantissa(x) << shift;
            // A rest only tips the rounding, so the lowest bit stands for it.
            long quotient = dividend / divisor | (dividend % divisor == 0 ? 0 : 1);
            return round(sign != 0, quotient, exponent(x) - exponent(y) - shift);
        }

        static int remain(int x, int y) {
            long divisor = mantissa(y);
            if (isNotANumber(x) || isNotANumber(y) || isInfinite(x) || divisor == 0) {
                return NOT_A_NUMBER;
            }
            int apart = exponent(x) - exponent(y);
            if (isInfinite(y) || apart < -24) {
                return x;
            }
            if (apart < 0) {
                divisor <<= -apart;
            }
            long rest = mantissa(x) % divisor;
            for (int i = 0; i < apart; i++) {
                rest = (rest << 1) % divisor;
            }
            return rest == 0 ? x & SIGN : round(x < 0, rest, Math.min(exponent(x), exponent(y)));
        }

        /** The float nearest to a positive mantissa times 2 to an exponent, the even one of two. */
        static int round(boolean negative, long mantissa, int exponent) {
            int sign = negative ? SIGN : 0;
            int cut = Math.max(40 - Long.numberOfLeadingZeros(mantissa), LEAST_EXPONENT - exponent);
            long whole = 0;
            if (cut <= 0) {
                whole = mantissa << -cut;
            } else if (cut <= 62) {
                whole = mantissa >> cut;
                long rest = mantissa - (whole << cut);
                long half = 1L << cut - 1;
                whole += rest > half || rest == half && (whole & 1) == 1 ? 1 : 0;
            }
            int power = exponent + cut;
            if (whole == 0x1000000) {
                whole = 0x800000;
                power++;
            }
            if (power > MOST_EXPONENT) {
                return sign | INFINITE;
            }
            return whole < 0x800000 ? sign | (int) whole : sign | power + 150 << 23 | (int) whole & 0x7fffff;
        }

        /** The whole number that a float is, or NO_WHOLE, which no type has, if it is none or beyond all types. */
        static long whole(int x) {
            int exponent = exponent(x);
            long number = mantissa(x);
            if (isNotANumber(x) || isInfinite(x) || exponent > 30) {
                return NO_WHOLE;
            }
            if (exponent >= 0) {
                number <<= exponent;
            } else if (number != 0) {
                int cut = Math.min(-exponent, 24);
                if ((number & (1L << cut) - 1) != 0) {
                    return NO_WHOLE;
                }
                number >>= cut;
            }
            return x < 0 ? -number : number;
        }
    }

    /** The nodes and the declarations. */
    private static final class Program {
        static final int MOST_NODES = 220;
        static final int MOST_DEPTH = 10;
        static final int DECLARATIONS = 10;
        static final int ABSENT = 0;
        static final int CONSTANT = 1;
        static final int FUNCTION = 2;

        final int[] kind = new int[MOST_NODES];
        final int[] a = new int[MOST_NODES];
        final int[] b = new int[MOST_NODES];
        final int[] c = new int[MOST_NODES];
        final int[] depth = new int[MOST_NODES];
        int count;
        final int[] form = new int[DECLARATIONS];
        final int[] parameters = new int[DECLARATIONS];
        final int[] known = new int[DECLARATIONS];
        final int[] body = new int[DECLARATIONS];

        /** Which numbers of a kind are parts: 1 for a, 2 for b, 4 for c; 8 if they may be missing; -1 for no kind. */
        static int shape(int kind) {
            switch (kind) {
                case 'n': case 'e': case 'p': case 'v': case 'd': case 'F':
                    return 0;
                case 'y': case 'z': case 'x': case 'K': case 'T': case 'r': case 'D': case 'E': case 'o':
                    return 1;
                case 't': case 's':
                    return 2;
                case '+': case '-': case '*': case '/': case '%': case '<': case '=': case 'P': case 'Q':
                case 'k': case 'C': case ';': case 'L':
                    return 3;
                case 'i':
                    return 7;
                case 'c':
                    return 14;
                default:
                    return -1;
            }
        }

        /** The greatest number a of a kind, or -1 if it has no bound, or is a part. */
        static int mostOf(int kind) {
            switch (kind) {
                case 'e': case 'd': case 'c': return 9;
                case 'v': case 's': return 3;
                case 'p': case 't': return 1;
                default: return -1;
            }
        }

        boolean isNode(int node) {
            return node >= 0 && node < count;
        }

        boolean isPart(int node, boolean mayMiss) {
            return isNode(node) || mayMiss && node == -1;
        }

        boolean mayBe(int kind, int a, int b, int c) {
            int shape = shape(kind);
            int most = mostOf(kind);
            boolean mayMiss = (shape & 8) != 0;
            return shape >= 0
                    && (most < 0 || a >= 0 && a <= most)
                    && ((shape & 1) == 0 || isPart(a, mayMiss))
                    && ((shape & 2) == 0 || isPart(b, mayMiss))
                    && ((shape & 4) == 0 || isPart(c, mayMiss));
        }

        int depthOf(int kind, int a, int b, int c) {
            int shape = shape(kind);
            int deepest = (shape & 1) != 0 ? depthAt(a) : 0;
            deepest = Math.max(deepest, (shape & 2) != 0 ? depthAt(b) : 0);
            return 1 + Math.max(deepest, (shape & 4) != 0 ? depthAt(c) : 0);
        }

        int depthAt(int node) {
            return isNode(node) ? depth[node] : 0;
        }

        int add(int kind, int a, int b, int c, int depth) {
            this.kind[count] = kind;
            this.a[count] = a;
            this.b[count] = b;
            this.c[count] = c;
            this.depth[count] = depth;
            return count++;
        }

        /** The part of a node by its place among the parts that are worked out, or -1 if there is none. */
        int part(int node, int place) {
            int shape = shape(kind[node]);
            int ofB = shape & 1;
            int ofC = ofB + (shape >> 1 & 1);
            if ((shape & 1) != 0 && place == 0) {
                return a[node];
            }
            if ((shape & 2) != 0 && place == ofB) {
                return b[node];
            }
            return (shape & 4) != 0 && place == ofC ? c[node] : -1;
        }

        void declare(int declaration, int form, int parameters, int known, int body) {
            this.form[declaration] = form;
            this.parameters[declaration] = parameters;
            this.known[declaration] = known;
            this.body[declaration] = body;
        }

        boolean isKnownParameter(int declaration, int place) {
            return (known[declaration] >> place & 1) == 1;
        }

        /** What a made function has for a parameter: the argument if it is to be known, and what is not there is, too. */
        long madeFor(int declaration, int place, long argument) {
            if (place >= parameters[declaration]) {
                return Value.NOTHING;
            }
            return isKnownParameter(declaration, place) ? argument : Value.UNKNOWN;
        }
    }

    /** A constant, or a call for a row of arguments, that was worked out, or is. */
    private static final class Thing {
        static final int CONSTANT = 10;
        static final int CALL = 20;

        /** As the trace tells it: the declaration, plus CONSTANT or CALL. */
        int code;
        long first;
        long second;
        long value;
        int nodes;
        int levels;
        int lookedAt;
        boolean working;
        Thing next;
    }

    /** A function made for a row of known arguments, or one that is being made. */
    private static final class Made {
        int declaration;
        long first;
        long second;
        /** For each node its value, what it is by what is known, UNKNOWN, or UNSEEN. */
        final long[] facts = new long[Program.MOST_NODES];
        final Made[] leads = new Made[Builder.MOST_MADE];
        int leadsCount;
        int left;
        int lookedAt;
        /** The number of the last build that led here. */
        int reachedBy;
        boolean doomed;
        Made next;

        void leadTo(Made other) {
            for (int i = 0; i < leadsCount; i++) {
                if (leads[i] == other) {
                    return;
                }
            }
            if (leadsCount < leads.length) {
                leads[leadsCount++] = other;
            }
        }

        boolean leadsToDoomed() {
            for (int i = 0; i < leadsCount; i++) {
                if (leads[i].doomed) {
                    return true;
                }
            }
            return false;
        }
    }

    /** What is kept, in chains by declaration. Dropped objects are used again, since all calls share one room. */
    private static final class Store {
        final Made[] madeOf = new Made[Program.DECLARATIONS];
        final Thing[] thingOf = new Thing[2 * Program.DECLARATIONS];
        int mades;
        int constants;
        int calls;
        Made freeMade;
        Thing freeThing;

        Made findMade(int declaration, long first, long second) {
            Made made = madeOf[declaration];
            while (made != null && (made.first != first || made.second != second)) {
                made = made.next;
            }
            return made;
        }

        Made addMade(int declaration, long first, long second) {
            Made made = freeMade;
            if (made == null) {
                made = new Made();
            } else {
                freeMade = made.next;
            }
            Arrays.fill(made.facts, Value.UNSEEN);
            made.declaration = declaration;
            made.first = first;
            made.second = second;
            made.leadsCount = 0;
            made.left = 0;
            made.lookedAt = 1 << declaration;
            made.reachedBy = 0;
            made.doomed = false;
            made.next = madeOf[declaration];
            madeOf[declaration] = made;
            mades++;
            return made;
        }

        Thing findThing(int code, long first, long second) {
            Thing thing = thingOf[code - Thing.CONSTANT];
            while (thing != null && (thing.first != first || thing.second != second)) {
                thing = thing.next;
            }
            return thing;
        }

        Thing addThing(int code, long first, long second) {
            Thing thing = freeThing;
            if (thing == null) {
                thing = new Thing();
            } else {
                freeThing = thing.next;
            }
            thing.code = code;
            thing.first = first;
            thing.second = second;
            thing.working = true;
            thing.next = thingOf[code - Thing.CONSTANT];
            thingOf[code - Thing.CONSTANT] = thing;
            count(code, 1);
            return thing;
        }

        void count(int code, int more) {
            if (code < Thing.CALL) {
                constants += more;
            } else {
                calls += more;
            }
        }

        /** Drops the functions that are doomed; how many they were. */
        int dropDoomed() {
            int before = mades;
            for (int i = 0; i < madeOf.length; i++) {
                Made made = madeOf[i];
                madeOf[i] = null;
                while (made != null) {
                    Made next = made.next;
                    if (made.doomed) {
                        made.next = freeMade;
                        freeMade = made;
                        mades--;
                    } else {
                        made.next = madeOf[i];
                        madeOf[i] = made;
                    }
                    made = next;
                }
            }
            return before - mades;
        }

        /** Drops constants and calls that looked at one of the declarations, or are still worked out; how many. */
        int dropThings(int declarations) {
            int before = constants + calls;
            for (int i = 0; i < thingOf.length; i++) {
                Thing thing = thingOf[i];
                thingOf[i] = null;
                while (thing != null) {
                    Thing next = thing.next;
                    if (thing.working || (thing.lookedAt & declarations) != 0) {
                        count(thing.code, -1);
                        thing.next = freeThing;
                        freeThing = thing;
                    } else {
                        thing.next = thingOf[i];
                        thingOf[i] = thing;
                    }
                    thing = next;
                }
            }
            return before - constants - calls;
        }

        int dropLookers(int declaration) {
            for (int i = 0; i < madeOf.length; i++) {
                for (Made made = madeOf[i]; made != null; made = made.next) {
                    made.doomed = (made.lookedAt >> declaration & 1) == 1;
                }
            }
            spreadDoom();
            return dropDoomed() + dropThings(1 << declaration);
        }

        /** Each round dooms one function more at least, or is the last one. */
        void spreadDoom() {
            boolean more = true;
            for (int round = 0; round <= mades && more; round++) {
                more = false;
                for (int i = 0; i < madeOf.length; i++) {
                    for (Made made = madeOf[i]; made != null; made = made.next) {
                        if (!made.doomed && made.leadsToDoomed()) {
                            made.doomed = true;
                            more = true;
                        }
                    }
                }
            }
        }

        void dropAll() {
            for (int i = 0; i < madeOf.length; i++) {
                for (Made made = madeOf[i]; made != null; made = made.next) {
                    made.doomed = true;
                }
            }
            dropDoomed();
            dropThings(-1);
        }

        int leftInAll() {
            int left = 0;
            for (int i = 0; i < madeOf.length; i++) {
                for (Made made = madeOf[i]; made != null; made = made.next) {
                    left += made.left;
                }
            }
            return left;
        }

        boolean isWithin(Store other) {
            for (int i = 0; i < madeOf.length; i++) {
                for (Made made = madeOf[i]; made != null; made = made.next) {
                    Made same = other.findMade(made.declaration, made.first, made.second);
                    if (same == null || same.left != made.left) {
                        return false;
                    }
                }
            }
            for (int i = 0; i < thingOf.length; i++) {
                for (Thing thing = thingOf[i]; thing != null; thing = thing.next) {
                    Thing same = other.findThing(thing.code, thing.first, thing.second);
                    if (same == null || same.value != thing.value) {
                        return false;
                    }
                }
            }
            return true;
        }
    }

    /** The calls that stand within one another, numbered from 1; 0 is what they stand in. */
    private static final class Frames {
        static final int MOST = 20;
        static final int VARIABLES = 4;

        int count;
        final int[] base = new int[MOST + 1];
        final int[] putOffBase = new int[MOST + 1];
        final long[] first = new long[MOST + 1];
        final long[] second = new long[MOST + 1];
        final long[] variables = new long[(MOST + 1) * VARIABLES];
        final boolean[] leaving = new boolean[MOST + 1];
        final long[] end = new long[MOST + 1];
        /** What a run runs in this call, or null if it is plain. */
        final Made[] made = new Made[MOST + 1];
        /** What a build works out in this call, or null for 'K'. */
        final Thing[] thing = new Thing[MOST + 1];
        /** The nodes of the call by now, with those of all that it needed. */
        final int[] nodes = new int[MOST + 1];
        final int[] levelsWithin = new int[MOST + 1];
        final int[] lookedAt = new int[MOST + 1];

        void clear() {
            count = 0;
            nodes[0] = 0;
            levelsWithin[0] = 0;
            lookedAt[0] = 0;
        }

        void open(long x, long y, int nodesBase, int putOffs) {
            count++;
            base[count] = nodesBase;
            putOffBase[count] = putOffs;
            first[count] = x;
            second[count] = y;
            leaving[count] = false;
            made[count] = null;
            thing[count] = null;
            nodes[count] = 0;
            levelsWithin[count] = 0;
            lookedAt[count] = 0;
            for (int i = count * VARIABLES; i < (count + 1) * VARIABLES; i++) {
                variables[i] = Value.NOTHING;
            }
        }
    }

    /** Works nodes out, with stacks of its own, since the calls of Java may not go as deep as those of the language. */
    private abstract static class Machine {
        /** Far above what the most nodes of a run can need. */
        static final int MOST_TURNS = 1000000;
        static final int STACK = Frames.MOST * Program.MOST_DEPTH;
        static final int FEW_PUT_OFF = 64;
        /** Far above what can be put off at once: in a build 500 nodes in each of 20 calls, in a run 2000 nodes. */
        static final int MOST_PUT_OFF = 1 << 15;

        final Program program;
        final Frames frames = new Frames();
        final int[] node = new int[STACK];
        final int[] stage = new int[STACK];
        final long[] held = new long[STACK];
        int height;
        /** The node that is to be worked out next, or -1 if a value is to be handed on. */
        int next;
        /** The nodes that are put off, times 2, plus 1 for those that wait for an error. */
        int[] putOff = new int[FEW_PUT_OFF];
        int putOffs;
        /** How many nodes were worked out. */
        int spent;

        Machine(Program program) {
            this.program = program;
        }

        /** Counts a node that is to be worked out; a fault if it would be one too many. */
        abstract long spend();

        /** What is known of a node in the call. */
        abstract long factAt(int at);

        /** Hands on the value of a constant or of a call, or begins to work it out. */
        abstract long need(int declaration, int form, long x, long y);

        /** Tells that a call looks at a declaration, which it may not come to need, as an argument may leave it. */
        abstract void look(int declaration);

        abstract long putOut(long value);

        /** Hands on the value with which a call was left, or finds a fault where it was called. */
        abstract long left(int frame, long value);

        final void clear() {
            frames.clear();
            height = 0;
            putOffs = 0;
        }

        final long open(long x, long y, int body) {
            if (frames.count >= Frames.MOST) {
                return Value.fault('l');
            }
            frames.open(x, y, height, putOffs);
            next = body;
            return Value.NOTHING;
        }

        /** Works on until all calls are left; the value of the outermost one, or the fault. */
        final long work() {
            long value = Value.NOTHING;
            for (int turn = 0; turn < MOST_TURNS && frames.count > 0; turn++) {
                int part = next;
                next = -1;
                value = part >= 0 ? meet(part) : goOn(value);
                if (Value.isFault(value)) {
                    return value;
                }
            }
            return frames.count > 0 ? Value.fault('l') : value;
        }

        final long meet(int asked) {
            long fact = factAt(asked);
            int at = Value.what(fact) == Value.STAND_IN ? (int) Value.number(fact) : asked;
            long fault = spend();
            if (Value.isFault(fault) || Value.isKnown(fact)) {
                return Value.isFault(fault) ? fault : fact;
            }
            int a = program.a[at];
            switch (program.kind[at]) {
                case 'n': return Value.ofType(Value.FREE, a);
                case 'e': return Value.of(Value.ERROR, a);
                case 'F': return Value.of(Value.TYPE, Value.FLOAT);
                case 'p': return parameter(a);
                case 'v': return frames.variables[frames.count * Frames.VARIABLES + a];
                case 'D': case 'E': return defer(at);
                case 'd': return begin(at) ? needConstant(a) : Value.fault('l');
                case 'K':
                    return begin(at) ? open(frames.first[frames.count], frames.second[frames.count], a)
                            : Value.fault('l');
                case 'c': return begin(at) ? argue(at, Value.NOTHING) : Value.fault('l');
                default:
                    next = program.part(at, 0);
                    return begin(at) ? Value.NOTHING : Value.fault('l');
            }
        }

        private boolean begin(int at) {
            if (height >= STACK) {
                return false;
            }
            node[height] = at;
            stage[height] = 0;
            height++;
            return true;
        }

        private long parameter(int place) {
            long value = place == 0 ? frames.first[frames.count] : frames.second[frames.count];
            return value == Value.UNKNOWN ? Value.fault('u') : value;
        }

        private long needConstant(int declaration) {
            if (program.form[declaration] != Program.CONSTANT) {
                return Value.fault('d');
            }
            return need(declaration, Thing.CONSTANT, Value.NOTHING, Value.NOTHING);
        }

        private long defer(int at) {
            if (putOffs >= MOST_PUT_OFF) {
                return Value.fault('l');
            }
            if (putOffs >= putOff.length) {
                putOff = Arrays.copyOf(putOff, 2 * putOff.length);
            }
            putOff[putOffs++] = program.a[at] * 2 + (program.kind[at] == 'E' ? 1 : 0);
            return Value.NOTHING;
        }

        /** Hands a value on to the node that waits for it, or to the call if none does. */
        final long goOn(long value) {
            if (height <= frames.base[frames.count]) {
                return endPart(value);
            }
            int top = height - 1;
            int at = node[top];
            int kind = program.kind[at];
            switch (kind) {
                case 'i': return choose(at, value);
                case ';': return pass(at);
                case 'C': return Value.isError(value) ? pass(at) : finish(value);
                case 'L': return repeat(at, value);
                case 'c': return argue(at, value);
                case 'd': case 'K': return finish(value);
                case 'T': return Value.isError(value) ? leave(value) : finish(value);
                case 'r': return leave(value);
                case 's':
                    frames.variables[frames.count * Frames.VARIABLES + program.a[at]] = value;
                    return finish(Value.NOTHING);
                case 'o': return finish(putOut(value));
                case 't': case 'y': case 'z': case 'x':
                    height--;
                    return Value.measure(kind, program.a[at], value);
                default:
                    if (stage[top] == 0) {
                        stage[top] = 1;
                        held[top] = value;
                        next = program.b[at];
                        return value;
                    }
                    height--;
                    return Value.operate(kind, held[top], value);
            }
        }

        private long finish(long value) {
            height--;
            return value;
        }

        /** The part b is the last one, and its value the node's. */
        private long pass(int at) {
            height--;
            next = program.b[at];
            return Value.NOTHING;
        }

        private long leave(long value) {
            height = frames.base[frames.count];
            return value;
        }

        private long choose(int at, long value) {
            if (!Value.isWholeNumber(value)) {
                return Value.fault('t');
            }
            height--;
            next = Value.number(value) != 0 ? program.b[at] : program.c[at];
            return value;
        }

        /** Stage 0 has the condition, stage 1 what is done over and over. */
        private long repeat(int at, long value) {
            int top = height - 1;
            if (stage[top] == 1) {
                stage[top] = 0;
                next = program.a[at];
                return value;
            }
            if (!Value.isWholeNumber(value)) {
                return Value.fault('t');
            }
            if (Value.number(value) == 0) {
                return finish(Value.NOTHING);
            }
            stage[top] = 1;
            next = program.b[at];
            return value;
        }

        /** Stage 0 has no argument yet, stage 1 gets the first one, stage 2 the second one, stage 3 the call's value. */
        private long argue(int at, long value) {
            int top = height - 1;
            int declaration = program.a[at];
            if (stage[top] == 3) {
                return finish(value);
            }
            if (program.form[declaration] != Program.FUNCTION) {
                return Value.fault('d');
            }
            if (stage[top] == 0) {
                stage[top] = 1;
                look(declaration);
                if (program.parameters[declaration] > 0 && program.b[at] >= 0) {
                    next = program.b[at];
                    return value;
                }
            }
            long last = value;
            if (stage[top] == 1) {
                stage[top] = 2;
                held[top] = value;
                last = Value.NOTHING;
                if (program.parameters[declaration] > 1 && program.c[at] >= 0) {
                    next = program.c[at];
                    return value;
                }
            }
            stage[top] = 3;
            return need(declaration, Thing.CALL, held[top], last);
        }

        /** The body of a call has ended, was left, or a part that was put off has: does the next such part, or leaves. */
        private long endPart(long value) {
            int frame = frames.count;
            if (!frames.leaving[frame]) {
                frames.leaving[frame] = true;
                frames.end[frame] = value;
            }
            for (int i = putOffs; i > frames.putOffBase[frame]; i--) {
                int part = putOff[--putOffs];
                if ((part & 1) == 0 || Value.isError(frames.end[frame])) {
                    next = part >> 1;
                    return value;
                }
            }
            frames.count--;
            return left(frame, frames.end[frame]);
        }
    }

    /** Runs made functions, and functions plainly. */
    private static final class Runner extends Machine {
        static final int MOST_NODES = 2000;
        static final int MOST_OUTPUTS = 40;

        final Store store;
        final long[] put = new long[MOST_OUTPUTS];
        int puts;
        /** The value of the last run, its fault, or UNSEEN if there was none. */
        long end;
        int runs;
        int valued;

        Runner(Program program, Store store) {
            super(program);
            this.store = store;
        }

        char runOf(int declaration, Made made, int x, int y) {
            clear();
            spent = 0;
            puts = 0;
            runs++;
            if (program.form[declaration] != Program.FUNCTION) {
                end = Value.fault('d');
                return 'd';
            }
            int parameters = program.parameters[declaration];
            open(parameters > 0 ? Value.ofType(Value.SIGNED_32, x) : Value.NOTHING,
                    parameters > 1 ? Value.ofType(Value.SIGNED_32, y) : Value.NOTHING, program.body[declaration]);
            frames.made[frames.count] = made;
            end = work();
            if (Value.isFault(end)) {
                return (char) Value.number(end);
            }
            valued++;
            return 'v';
        }

        long spend() {
            if (spent >= MOST_NODES) {
                return Value.fault('l');
            }
            spent++;
            return Value.NOTHING;
        }

        long factAt(int at) {
            Made made = frames.made[frames.count];
            return made == null ? Value.UNSEEN : made.facts[at];
        }

        long need(int declaration, int form, long x, long y) {
            Made callee = null;
            if (frames.made[frames.count] != null) {
                callee = store.findMade(declaration, program.madeFor(declaration, 0, x),
                        program.madeFor(declaration, 1, y));
            }
            long opened = open(x, y, program.body[declaration]);
            if (!Value.isFault(opened)) {
                frames.made[frames.count] = callee;
            }
            return opened;
        }

        long putOut(long value) {
            if (puts < MOST_OUTPUTS) {
                put[puts] = value;
            }
            puts++;
            return Value.NOTHING;
        }

        void look(int declaration) {
        }

        long left(int frame, long value) {
            return value;
        }
    }

    /** Works out 'K', constants and calls as a build goes on. */
    private static final class Worker extends Machine {
        static final int MOST_NODES = 500;

        final Store store;
        int begun;

        Worker(Program program, Store store) {
            super(program);
            this.store = store;
        }

        /** Makes ready for a 'K' or a constant that a made function has. */
        void start() {
            clear();
        }

        long spend() {
            if (frames.nodes[frames.count] >= MOST_NODES) {
                return Value.fault('q');
            }
            frames.nodes[frames.count]++;
            spent++;
            return Value.NOTHING;
        }

        long factAt(int at) {
            return Value.UNSEEN;
        }

        long need(int declaration, int form, long x, long y) {
            Thing thing = store.findThing(declaration + form, x, y);
            if (thing == null) {
                long opened = open(x, y, program.body[declaration]);
                if (!Value.isFault(opened)) {
                    begun++;
                    frames.thing[frames.count] = store.addThing(declaration + form, x, y);
                    frames.lookedAt[frames.count] = 1 << declaration;
                }
                return opened;
            }
            if (thing.working) {
                return Value.fault('r');
            }
            if (frames.count + thing.levels > Frames.MOST) {
                return Value.fault('l');
            }
            return handOn(thing.value, frames.count, thing.nodes, thing.levels, thing.lookedAt);
        }

        /** Counts what was needed for what needed it, where too many nodes are the fault. */
        private long handOn(long value, int frame, int nodes, int levels, int lookedAt) {
            frames.nodes[frame] += nodes;
            frames.levelsWithin[frame] = Math.max(frames.levelsWithin[frame], levels);
            frames.lookedAt[frame] |= lookedAt;
            return frames.nodes[frame] > MOST_NODES ? Value.fault('q') : value;
        }

        void look(int declaration) {
            frames.lookedAt[frames.count] |= 1 << declaration;
        }

        long putOut(long value) {
            return Value.fault('u');
        }

        long left(int frame, long value) {
            int levels = frames.levelsWithin[frame] + 1;
            Thing thing = frames.thing[frame];
            if (thing != null) {
                thing.value = value;
                thing.nodes = frames.nodes[frame];
                thing.levels = levels;
                thing.lookedAt = frames.lookedAt[frame];
                thing.working = false;
            }
            return handOn(value, frame - 1, frames.nodes[frame], levels, frames.lookedAt[frame]);
        }
    }

    /** Makes functions: looks at their nodes, works out what is known, and goes into what they call. */
    private static final class Builder {
        static final int MOST_MADE = 30;
        static final int STACK = MOST_MADE * Program.MOST_DEPTH;
        /** Far above the nodes, one for each place, of the most functions. */
        static final int MOST_TURNS = 1000000000;

        final Program program;
        final Store store;
        final Worker worker;
        final int[] node = new int[STACK];
        /** How often a node was gone on with. */
        final int[] stage = new int[STACK];
        int height;
        final Made[] making = new Made[MOST_MADE];
        final int[] base = new int[MOST_MADE];
        int makings;
        final Made[] reached = new Made[MOST_MADE];
        int reachedCount;
        int builds;
        /** The function that was built last without a fault. */
        Made root;
        int begun;
        char fault;
        final int[] trace = new int[MOST_MADE + Frames.MOST];
        int traced;

        Builder(Program program, Store store) {
            this.program = program;
            this.store = store;
            this.worker = new Worker(program, store);
        }

        /** Makes a function, and all to which it leads; '-', or the fault. */
        char makeAll(int declaration) {
            clear();
            if (program.form[declaration] != Program.FUNCTION) {
                return 'd';
            }
            if (program.known[declaration] != 0) {
                return 'u';
            }
            lead(declaration, program.madeFor(declaration, 0, Value.UNKNOWN),
                    program.madeFor(declaration, 1, Value.UNKNOWN));
            for (int turn = 0; turn < MOST_TURNS && makings > 0 && fault == '-'; turn++) {
                int top = height - 1;
                if (height <= base[makings - 1]) {
                    makings--;
                } else if (isWork(program.kind[node[top]])) {
                    long value = startWork(node[top]);
                    settle(node[top], worker.frames.count > 0 ? worker.work() : value);
                    making[makings - 1].lookedAt |= worker.frames.lookedAt[0];
                } else {
                    goOn(node[top], stage[top]++);
                }
            }
            if (fault == '-') {
                root = reached[0];
            } else {
                takeTrace();
                dropFaulty();
            }
            return fault;
        }

        private void clear() {
            builds++;
            height = 0;
            makings = 0;
            reachedCount = 0;
            begun = 0;
            traced = 0;
            fault = '-';
            worker.start();
            worker.begun = 0;
            worker.spent = 0;
        }

        /** Leads from the function that is being made, if there is one, to another, which is begun if it is not there. */
        private void lead(int declaration, long first, long second) {
            Made caller = makings > 0 ? making[makings - 1] : null;
            Made made = store.findMade(declaration, first, second);
            if (made != null) {
                reachAll(made);
            } else if (reachedCount >= MOST_MADE) {
                fault = 'q';
            } else {
                made = store.addMade(declaration, first, second);
                reach(made);
                beginMaking(made);
            }
            if (caller != null && made != null) {
                caller.leadTo(made);
            }
        }

        /** Counts a function that is there, and all to which it leads, once for each build. */
        private void reachAll(Made made) {
            int from = reachedCount;
            reach(made);
            for (int i = from; i < reachedCount && i < MOST_MADE; i++) {
                for (int j = 0; j < reached[i].leadsCount; j++) {
                    reach(reached[i].leads[j]);
                }
            }
        }

        private void reach(Made made) {
            if (made.reachedBy == builds) {
                return;
            }
            if (reachedCount >= MOST_MADE) {
                fault = 'q';
                return;
            }
            made.reachedBy = builds;
            reached[reachedCount++] = made;
        }

        private void beginMaking(Made made) {
            if (makings >= MOST_MADE) {
                fault = 'q';
                return;
            }
            making[makings] = made;
            base[makings] = height;
            makings++;
            begun++;
            begin(program.body[made.declaration]);
        }

        private void begin(int at) {
            if (height >= STACK) {
                fault = 'q';
                return;
            }
            node[height] = at;
            stage[height] = 0;
            height++;
        }

        private static boolean isWork(int kind) {
            return kind == 'K' || kind == 'd';
        }

        /** Begins to work out a 'K' or a constant; its value if it is there already. */
        private long startWork(int at) {
            int a = program.a[at];
            worker.start();
            if (program.kind[at] == 'K') {
                Made made = making[makings - 1];
                return worker.open(made.first, made.second, a);
            }
            if (program.form[a] != Program.CONSTANT) {
                return Value.fault('d');
            }
            return worker.need(a, Thing.CONSTANT, Value.NOTHING, Value.NOTHING);
        }

        /** Goes on with a node: begins to look at its next part, or tells what is known of it. */
        private void goOn(int at, int turn) {
            switch (program.kind[at]) {
                case 'i':
                    choose(at, turn);
                    break;
                case 'C': case ';':
                    pass(at, turn);
                    break;
                case 'c':
                    argue(at, turn);
                    break;
                default:
                    int part = program.part(at, turn);
                    if (part >= 0) {
                        begin(part);
                    } else {
                        settle(at, outcome(at));
                    }
            }
        }

        private long fact(int at) {
            return making[makings - 1].facts[at];
        }

        private void settle(int at, long fact) {
            if (Value.isFault(fact)) {
                fault = (char) Value.number(fact);
                return;
            }
            Made made = making[makings - 1];
            made.facts[at] = fact;
            made.left += fact == Value.UNKNOWN ? 1 : 0;
            height--;
        }

        /** What is known of a node that is another one by what is known. */
        private long standIn(int at) {
            return fact(at) == Value.UNKNOWN ? Value.of(Value.STAND_IN, at) : fact(at);
        }

        private void choose(int at, int turn) {
            long condition = fact(program.a[at]);
            if (turn == 0) {
                begin(program.a[at]);
            } else if (!Value.isKnown(condition)) {
                if (turn < 3) {
                    begin(turn == 1 ? program.b[at] : program.c[at]);
                } else {
                    settle(at, Value.UNKNOWN);
                }
            } else if (!Value.isWholeNumber(condition)) {
                fault = 't';
            } else {
                int chosen = Value.number(condition) != 0 ? program.b[at] : program.c[at];
                if (turn == 1) {
                    begin(chosen);
                } else {
                    settle(at, standIn(chosen));
                }
            }
        }

        private void pass(int at, int turn) {
            long first = fact(program.a[at]);
            boolean known = Value.isKnown(first);
            if (turn == 0) {
                begin(program.a[at]);
            } else if (program.kind[at] == 'C' && known && !Value.isError(first)) {
                settle(at, first);
            } else if (turn == 1) {
                begin(program.b[at]);
            } else {
                settle(at, known ? standIn(program.b[at]) : Value.UNKNOWN);
            }
        }

        /** In turn 0 no argument was looked at, in turns 1 and 2 the first or the second one, in turn 3 all is made. */
        private void argue(int at, int turn) {
            int declaration = program.a[at];
            if (turn > 2) {
                settle(at, Value.UNKNOWN);
                return;
            }
            if (program.form[declaration] != Program.FUNCTION) {
                fault = 'd';
                return;
            }
            for (int place = turn; place < program.parameters[declaration]; place++) {
                int part = program.part(at, place);
                if (part >= 0) {
                    stage[height - 1] = place + 1;
                    begin(part);
                    return;
                }
            }
            stage[height - 1] = 3;
            if (lacksArgument(at, declaration)) {
                fault = 'u';
                return;
            }
            lead(declaration, program.madeFor(declaration, 0, argument(at, 0)),
                    program.madeFor(declaration, 1, argument(at, 1)));
        }

        /** Whether an argument that must be known is not. */
        private boolean lacksArgument(int at, int declaration) {
            for (int place = 0; place < program.parameters[declaration]; place++) {
                if (program.isKnownParameter(declaration, place) && !Value.isKnown(argument(at, place))) {
                    return true;
                }
            }
            return false;
        }

        private long argument(int at, int place) {
            int part = program.part(at, place);
            return part < 0 ? Value.NOTHING : fact(part);
        }

        /** What is known of a node of which all parts were looked at. */
        private long outcome(int at) {
            int kind = program.kind[at];
            int a = program.a[at];
            switch (kind) {
                case 'n':
                    return Value.ofType(Value.FREE, a);
                case 'e':
                    return Value.of(Value.ERROR, a);
                case 'F':
                    return Value.of(Value.TYPE, Value.FLOAT);
                case 'p':
                    return a == 0 ? making[makings - 1].first : making[makings - 1].second;
                case 'T':
                    return Value.isKnown(fact(a)) && !Value.isError(fact(a)) ? fact(a) : Value.UNKNOWN;
                case 'y': case 'z': case 'x':
                    return Value.isKnown(fact(a)) ? Value.measure(kind, a, fact(a)) : Value.UNKNOWN;
                case 't':
                    int bits = program.b[at];
                    return Value.isKnown(fact(bits)) ? Value.measure(kind, a, fact(bits)) : Value.UNKNOWN;
                case 'v': case 's': case 'L': case 'r': case 'D': case 'E': case 'o':
                    return Value.UNKNOWN;
                default:
                    long x = fact(a);
                    long y = fact(program.b[at]);
                    return Value.isKnown(x) && Value.isKnown(y) ? Value.operate(kind, x, y) : Value.UNKNOWN;
            }
        }

        /** The things on the way to the fault, the innermost one first. */
        private void takeTrace() {
            for (int i = worker.frames.count; i > 0; i--) {
                Thing thing = worker.frames.thing[i];
                if (thing != null) {
                    trace[traced++] = thing.code;
                }
            }
            for (int i = makings - 1; i >= 0; i--) {
                trace[traced++] = making[i].declaration;
            }
        }

        private void dropFaulty() {
            for (int i = 0; i < makings; i++) {
                making[i].doomed = true;
            }
            store.spreadDoom();
            store.dropDoomed();
            store.dropThings(0);
        }
    }
}
