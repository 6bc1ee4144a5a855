import java.util.NoSuchElementException;

/** Each promise of the document by itself: ordinary inputs, the edges that are named, and wrong inputs. */
public final class PromiseRuns {
    static int wrong = 0;
    static String promise = "";

    interface Act {
        long of();
    }

    static void due(String what, long got, long want) {
        if (got != want) {
            wrong++;
            System.out.println(promise + ": " + what + " answered " + got + ", due is " + want);
        }
    }

    static void refused(String what, Class<? extends Exception> want, Act act) {
        try {
            long got = act.of();
            wrong++;
            System.out.println(promise + ": " + what + " answered " + got + ", due is " + want.getSimpleName());
        } catch (RuntimeException e) {
            if (e.getClass() != want) {
                wrong++;
                System.out.println(promise + ": " + what + " threw " + e + ", due is " + want.getSimpleName());
            }
        }
    }

    static final Class<IllegalArgumentException> ILLEGAL = IllegalArgumentException.class;
    static final Class<IllegalStateException> STATE = IllegalStateException.class;
    static final Class<NoSuchElementException> NONE = NoSuchElementException.class;
    static final Class<IndexOutOfBoundsException> INDEX = IndexOutOfBoundsException.class;
    static final Class<ArithmeticException> ARITHMETIC = ArithmeticException.class;

    /** A bench with short names for nodes. */
    static final class Desk {
        final ComptimeBench x = new ComptimeBench();

        int n(int number) {
            return x.node('n', number, 0, 0);
        }

        int p(int place) {
            return x.node('p', place, 0, 0);
        }

        int v(int place) {
            return x.node('v', place, 0, 0);
        }

        int d(int declaration) {
            return x.node('d', declaration, 0, 0);
        }

        int e(int error) {
            return x.node('e', error, 0, 0);
        }

        int one(char kind, int part) {
            return x.node(kind, part, 0, 0);
        }

        int two(char kind, int a, int b) {
            return x.node(kind, a, b, 0);
        }

        int three(char kind, int a, int b, int c) {
            return x.node(kind, a, b, c);
        }

        int call(int declaration, int first, int second) {
            return x.node('c', declaration, first, second);
        }

        int f() {
            return x.node('F', 0, 0, 0);
        }

        /** The type with so many bits, signed if they are less than 0. */
        int t(int bits) {
            return x.node('t', bits < 0 ? 1 : 0, n(Math.abs(bits)), 0);
        }

        int as(int number, int bits) {
            return two('k', n(number), t(bits));
        }

        int then(int... parts) {
            int all = parts[parts.length - 1];
            for (int i = parts.length - 2; i >= 0; i--) {
                all = two(';', parts[i], all);
            }
            return all;
        }

        /** What becomes of a node as the body of function 0 with two parameters: a fault, or kind and number. */
        String plain(int body, int first, int second) {
            x.function(0, 2, 0, body);
            char end = x.plain(0, first, second);
            return end == 'v' ? x.resultKind() + "" + x.result() : "" + end;
        }

        String built(int body, int first, int second) {
            x.function(0, 2, 0, body);
            char end = x.build(0);
            if (end != '-') {
                return "!" + end;
            }
            end = x.run(first, second);
            return end == 'v' ? x.resultKind() + "" + x.result() : "" + end;
        }

        /** The value of a node as a constant, by a build. */
        String known(int body) {
            x.constant(9, body);
            x.function(8, 0, 0, d(9));
            char end = x.build(8);
            return end == '-' ? x.kindOf(9) + "" + x.numberOf(9) : "" + end;
        }
    }

    static void told(String what, String got, String want) {
        if (!got.equals(want)) {
            wrong++;
            System.out.println(promise + ": " + what + " came to " + got + ", due is " + want);
        }
    }

    public static void main(String[] args) {
        newObject();
        nodes();
        nodeLimits();
        constants();
        functions();
        removals();
        builds();
        buildFaults();
        traces();
        limits();
        counts();
        looks();
        works();
        left();
        kindsAndNumbers();
        operators();
        conversions();
        types();
        floats();
        runs();
        leaving();
        loops();
        callsWithin();
        plainly();
        outputs();
        figures();
        wholeness();
        drops();
        System.out.println(wrong == 0 ? "the promises hold" : wrong + " answers are not as due");
        if (wrong != 0) {
            System.exit(1);
        }
    }

    static void newObject() {
        promise = "1";
        ComptimeBench x = new ComptimeBench();
        due("made", x.made(), 0);
        due("constants", x.constants(), 0);
        due("calls", x.calls(), 0);
        due("trace", x.trace(), 0);
        due("looked", x.looked(), 0);
        due("worked", x.worked(), 0);
        due("nodesLeft", x.nodesLeft(), 0);
        due("outputs", x.outputs(), 0);
        due("steps", x.steps(), 0);
        due("isWhole", x.isWhole() ? 1 : 0, 1);
        refused("run", STATE, () -> x.run(0, 0));
        refused("resultKind", NONE, x::resultKind);
        refused("result", NONE, x::result);
        refused("output", INDEX, () -> x.output(0));
        refused("traceAt", INDEX, () -> x.traceAt(0));
        refused("valueShare", ARITHMETIC, () -> (long) x.valueShare());
        refused("meanLeft", ARITHMETIC, () -> (long) x.meanLeft());
        for (int d = 0; d < 10; d++) {
            int at = d;
            refused("remove", NONE, () -> x.remove(at));
            refused("kindOf", NONE, () -> x.kindOf(at));
            due("build", x.build(d), 'd');
        }
        refused("a part of no node", ILLEGAL, () -> x.node('y', 0, 0, 0));
    }

    static void nodes() {
        promise = "2";
        ComptimeBench x = new ComptimeBench();
        due("the first node", x.node('n', Integer.MIN_VALUE, 0, 0), 0);
        due("the second node", x.node('n', Integer.MAX_VALUE, -9, 400), 1);
        String kinds = "nepvdc+-*/%<=PQiktFyzxKTC;sLrDEo";
        for (char kind = 0; kind < 300; kind++) {
            char at = kind;
            if (kinds.indexOf(kind) < 0) {
                refused("kind " + (int) kind, ILLEGAL, () -> x.node(at, 0, 0, 0));
            }
        }
        for (char kind : "edc".toCharArray()) {
            refused(kind + " 10", ILLEGAL, () -> x.node(kind, 10, 0, 0));
            refused(kind + " -1", ILLEGAL, () -> x.node(kind, -1, 0, 0));
        }
        for (char kind : "vs".toCharArray()) {
            refused(kind + " 4", ILLEGAL, () -> x.node(kind, 4, 0, 0));
            refused(kind + " -1", ILLEGAL, () -> x.node(kind, -1, 0, 0));
        }
        for (char kind : "pt".toCharArray()) {
            refused(kind + " 2", ILLEGAL, () -> x.node(kind, 2, 0, 0));
            refused(kind + " -1", ILLEGAL, () -> x.node(kind, -1, 0, 0));
        }
        for (char kind : "+-*/%<=PQikyzxKTC;LrDEo".toCharArray()) {
            refused(kind + " of node 2", ILLEGAL, () -> x.node(kind, 2, 0, 0));
            refused(kind + " of node -1", ILLEGAL, () -> x.node(kind, -1, 0, 0));
        }
        for (char kind : "+-*/%<=PQiktC;sL".toCharArray()) {
            refused(kind + " with b 2", ILLEGAL, () -> x.node(kind, 0, 2, 0));
            refused(kind + " with b -1", ILLEGAL, () -> x.node(kind, 0, -1, 0));
        }
        refused("i with c 2", ILLEGAL, () -> x.node('i', 0, 0, 2));
        refused("i with c -1", ILLEGAL, () -> x.node('i', 0, 0, -1));
        refused("c with c 2", ILLEGAL, () -> x.node('c', 0, 0, 2));
        refused("c with b -2", ILLEGAL, () -> x.node('c', 0, -2, 0));
        due("nothing was added", x.node('c', 9, -1, -1), 2);
        due("the first argument may be missing alone", x.node('c', 0, -1, 1), 3);
        due("numbers of no meaning", x.node('F', -5, -5, 999), 4);
        due("and more", x.node('y', 4, -7, 999), 5);
        due("and of t", x.node('t', 1, 0, 999), 6);
        due("and of s", x.node('s', 3, 0, -4), 7);
        due("all kinds", kinds.length(), 32);
    }

    static void nodeLimits() {
        promise = "2";
        ComptimeBench x = new ComptimeBench();
        int node = x.node('n', 1, 0, 0);
        for (int depth = 2; depth <= 10; depth++) {
            node = x.node('r', node, 0, 0);
        }
        int deep = node;
        refused("depth 11", STATE, () -> x.node('r', deep, 0, 0));
        refused("depth 11 by b", STATE, () -> x.node('+', 0, deep, 0));
        refused("depth 11 by c", STATE, () -> x.node('i', 0, 0, deep));
        refused("depth 11 by an argument", STATE, () -> x.node('c', 0, -1, deep));
        refused("no such part is told first", ILLEGAL, () -> x.node('+', deep, 77, 0));
        due("b has no meaning for r", x.node('r', 0, deep, deep), 10);
        due("c without arguments is not deep", x.node('c', 0, -1, -1), 11);
        int call = 11;
        for (int depth = 2; depth <= 10; depth++) {
            due("a call without arguments has depth 1", x.node('r', call, 0, 0), call + 1);
            call++;
        }
        for (int i = 21; i < 220; i++) {
            due("node", x.node('n', i, 0, 0), i);
        }
        refused("node 220", STATE, () -> x.node('n', 0, 0, 0));
        refused("a wrong one", ILLEGAL, () -> x.node('+', 220, 0, 0));
        refused("no such kind", ILLEGAL, () -> x.node('?', 0, 0, 0));
        due("the last node is there", x.constant(0, 219), 0);
        refused("but none after it", ILLEGAL, () -> x.constant(0, 220));
    }

    static void constants() {
        promise = "3";
        Desk k = new Desk();
        int two = k.n(2);
        refused("no number", ILLEGAL, () -> k.x.constant(10, two));
        refused("no number", ILLEGAL, () -> k.x.constant(-1, two));
        refused("no node", ILLEGAL, () -> k.x.constant(1, 1));
        refused("no node", ILLEGAL, () -> k.x.constant(1, -1));
        due("nothing drops", k.x.constant(1, two), 0);
        k.x.function(0, 0, 0, k.d(1));
        due("build", k.x.build(0), '-');
        due("constants", k.x.constants(), 1);
        due("a constant that nothing looked at", k.x.constant(2, two), 0);
        due("the same again", k.x.constant(1, two), 2);
        due("once", k.x.constant(1, two), 0);
        due("constants", k.x.constants(), 0);
        due("build", k.x.build(0), '-');
        due("told anew as a constant", k.x.constant(0, two), 1);
        due("and is no function now", k.x.build(0), 'd');
        due("the other one was kept", k.x.constants(), 1);
        k.x.function(9, 0, 0, k.d(0));
        due("build", k.x.build(9), '-');
        due("constants", k.x.constants(), 2);
        due("the first declaration is dropped like others", k.x.constant(0, two), 2);
        due("constants", k.x.constants(), 1);
    }

    static void functions() {
        promise = "4";
        Desk k = new Desk();
        int two = k.n(2);
        refused("no number", ILLEGAL, () -> k.x.function(10, 0, 0, two));
        refused("no number", ILLEGAL, () -> k.x.function(-1, 0, 0, two));
        refused("no node", ILLEGAL, () -> k.x.function(0, 0, 0, 1));
        refused("no node", ILLEGAL, () -> k.x.function(0, 0, 0, -1));
        refused("3 parameters", ILLEGAL, () -> k.x.function(0, 3, 0, two));
        refused("-1 parameters", ILLEGAL, () -> k.x.function(0, -1, 0, two));
        refused("known without parameters", ILLEGAL, () -> k.x.function(0, 0, 1, two));
        refused("the second one of one", ILLEGAL, () -> k.x.function(0, 1, 2, two));
        refused("both of one", ILLEGAL, () -> k.x.function(0, 1, 3, two));
        refused("known 4", ILLEGAL, () -> k.x.function(0, 2, 4, two));
        refused("known -1", ILLEGAL, () -> k.x.function(0, 2, -1, two));
        due("nothing was declared", k.x.build(0), 'd');
        due("both of two", k.x.function(0, 2, 3, two), 0);
        due("is known", k.x.build(0), 'u');
        due("one of one", k.x.function(1, 1, 1, two), 0);
        due("the second of two", k.x.function(2, 2, 2, two), 0);
        k.x.function(3, 0, 0, k.then(k.call(0, two, two), k.call(1, two, -1), k.call(2, two, two)));
        due("build", k.x.build(3), '-');
        due("made", k.x.made(), 4);
        due("an edit drops what looked at it", k.x.function(1, 1, 1, two), 2);
        due("made", k.x.made(), 2);
        due("an edit of a called one again", k.x.function(0, 2, 3, two), 1);
        due("a constant instead", k.x.function(2, 0, 0, two), 1);
        due("made", k.x.made(), 0);
    }

    static void removals() {
        promise = "5";
        Desk k = new Desk();
        k.x.constant(4, k.n(7));
        k.x.function(0, 0, 0, k.d(4));
        refused("no number", ILLEGAL, () -> k.x.remove(10));
        refused("no number", ILLEGAL, () -> k.x.remove(-1));
        refused("not there", NONE, () -> k.x.remove(5));
        due("build", k.x.build(0), '-');
        due("removed", k.x.remove(4), 2);
        refused("not there any more", NONE, () -> k.x.remove(4));
        due("build", k.x.build(0), 'd');
        due("in function 0", k.x.trace(), 1);
        due("the function is dropped already", k.x.remove(0), 0);
        due("build", k.x.build(0), 'd');
        due("ahead of all", k.x.trace(), 0);
    }

    static void builds() {
        promise = "6";
        Desk k = new Desk();
        int two = k.n(2);
        refused("no number", ILLEGAL, () -> k.x.build(10));
        refused("no number", ILLEGAL, () -> k.x.build(-1));
        due("not there", k.x.build(3), 'd');
        k.x.constant(3, two);
        due("a constant", k.x.build(3), 'd');
        k.x.function(3, 1, 1, two);
        due("with a known parameter", k.x.build(3), 'u');
        k.x.function(3, 2, 2, two);
        due("with a known second parameter", k.x.build(3), 'u');
        k.x.function(3, 2, 0, two);
        due("without", k.x.build(3), '-');
        // what is never reached is never wrong
        int bad = k.two('/', two, k.n(0));
        k.x.function(0, 1, 0, k.three('i', k.n(1), k.p(0), bad));
        due("not looked at", k.x.build(0), '-');
        k.x.function(0, 1, 0, k.three('i', k.p(0), k.p(0), bad));
        due("known within an unknown one", k.x.build(0), 'z');
        k.x.function(0, 1, 0, k.two('C', two, bad));
        due("C of a value", k.x.build(0), '-');
        k.x.function(0, 1, 0, k.two('C', k.e(1), bad));
        due("C of an error", k.x.build(0), 'z');
        k.x.function(0, 1, 0, k.two('C', k.p(0), bad));
        due("C of an unknown one", k.x.build(0), 'z');
        k.x.function(0, 1, 0, k.two('+', k.p(0), bad));
        due("parts of an unknown one are looked at", k.x.build(0), 'z');
        k.x.function(0, 1, 0, k.two('L', k.n(0), bad));
        due("L is looked at, though its condition is known", k.x.build(0), 'z');
        k.x.function(1, 1, 0, k.p(0));
        k.x.function(0, 1, 0, k.call(1, k.p(0), bad));
        due("an argument too many is left out", k.x.build(0), '-');
        k.x.function(0, 1, 0, k.one('K', k.three('i', k.n(0), bad, two)));
        due("not reached in K", k.x.build(0), '-');
    }

    static void buildFaults() {
        promise = "6";
        Desk k = new Desk();
        int one = k.n(1);
        told("t", k.built(k.three('i', k.e(1), one, one), 0, 0), "!t");
        told("o", k.built(k.two('+', k.as(255, 8), one), 0, 0), "!o");
        told("c", k.built(k.as(256, 8), 0, 0), "!c");
        told("z", k.built(k.two('%', one, k.n(0)), 0, 0), "!z");
        told("d of nothing", k.built(k.d(7), 0, 0), "!d");
        told("d of a call of nothing", k.built(k.call(7, -1, -1), 0, 0), "!d");
        k.x.constant(7, one);
        k.x.function(6, 1, 1, k.p(0));
        told("d of a constant that is called", k.built(k.call(7, -1, -1), 0, 0), "!d");
        told("d of a function as a constant", k.built(k.d(6), 0, 0), "!d");
        told("u of an argument", k.built(k.call(6, k.p(0), -1), 0, 0), "!u");
        told("arguments ahead of u", k.built(k.call(6, k.two('+', k.p(0), k.d(6)), -1), 0, 0), "!d");
        k.x.function(5, 2, 1, one);
        told("all arguments ahead of u", k.built(k.call(5, k.p(0), k.two('/', one, k.n(0))), 0, 0), "!z");
        due("found in function 0", k.x.trace(), 1);
        told("no fault in them", k.built(k.call(5, k.p(0), k.p(1)), 0, 0), "!u");
        k.x.function(5, 2, 2, one);
        told("u of the second one", k.built(k.call(5, k.p(0), k.p(1)), 0, 0), "!u");
        told("a function as an argument is made ahead of u", k.built(k.call(5, one, k.call(6, one, -1)), 0, 0), "!u");
        due("functions 0 and 6", k.x.looked(), 2);
        due("function 6 is kept", k.x.made(), 1);
        told("a missing argument is known", k.built(k.call(6, -1, -1), 0, 0), "-0");
        told("u of K", k.built(k.one('K', k.p(0)), 0, 0), "!u");
        told("u of what puts out", k.built(k.one('K', k.one('o', one)), 0, 0), "!u");
        told("u of what puts out in a constant", k.known(k.one('o', one)), "u");
        k.x.function(5, 0, 0, k.one('o', one));
        told("u of what puts out in a call", k.built(k.one('K', k.call(5, -1, -1)), 0, 0), "!u");
        told("K with a parameter that is not there", k.known(k.one('K', k.p(1))), "-0");
        told("d in K", k.built(k.one('K', k.d(4)), 0, 0), "!d");
        told("d in K of a call", k.built(k.one('K', k.call(4, -1, -1)), 0, 0), "!d");
        k.x.constant(4, k.d(3));
        k.x.constant(3, k.d(4));
        told("r", k.built(k.d(4), 0, 0), "!r");
        k.x.function(3, 1, 0, k.call(3, k.p(0), -1));
        told("r of a call", k.built(k.one('K', k.call(3, one, -1)), 0, 0), "!r");
        told("a function that leads to itself is made once", k.built(k.call(3, one, -1), 0, 0), "l");
    }

    static void traces() {
        promise = "7, 8";
        Desk k = new Desk();
        int bad = k.two('/', k.n(1), k.n(0));
        k.x.constant(5, bad);
        k.x.function(4, 1, 0, k.d(5));
        k.x.function(3, 1, 0, k.one('K', k.call(4, k.n(1), -1)));
        k.x.function(2, 1, 1, k.call(3, k.p(0), -1));
        k.x.function(1, 0, 0, k.call(2, k.n(9), -1));
        due("build", k.x.build(1), 'z');
        due("trace", k.x.trace(), 5);
        int[] way = {15, 24, 3, 2, 1};
        for (int i = 0; i < way.length; i++) {
            due("traceAt " + i, k.x.traceAt(i), way[i]);
        }
        refused("traceAt 5", INDEX, () -> k.x.traceAt(5));
        refused("traceAt -1", INDEX, () -> k.x.traceAt(-1));
        due("all were begun", k.x.looked(), 5);
        due("nothing is made", k.x.made() + k.x.constants() + k.x.calls(), 0);
        refused("a build that is refused", ILLEGAL, () -> k.x.build(10));
        due("changes nothing", k.x.trace(), 5);
        due("ahead of all", k.x.build(9), 'd');
        due("trace", k.x.trace(), 0);
        due("looked", k.x.looked(), 0);
        due("worked", k.x.worked(), 0);
        refused("traceAt 0", INDEX, () -> k.x.traceAt(0));
        k.x.constant(5, k.n(8));
        due("build", k.x.build(1), '-');
        due("no trace", k.x.trace(), 0);
    }

    static void limits() {
        promise = "6: 30 functions, 500 nodes, 20 levels";
        for (int from = 28; from <= 30; from++) {
            // function 1 leads to itself down to 0, from 28 on with 29 functions, and function 0 to it
            Desk k = descent(from, false);
            due("functions from " + from, k.x.build(0), from == 28 ? '-' : 'q');
            due("made", k.x.made(), from == 28 ? 30 : 0);
            due("looked", k.x.looked(), 30);
            due("trace", k.x.trace(), from == 28 ? 0 : 30);
            due("the innermost one", from == 28 ? 1 : k.x.traceAt(0), 1);
        }
        for (int from = 18; from <= 20; from++) {
            // 'K' is one level, and the calls from 18 down to 0 are 19 more
            Desk k = descent(from, true);
            due("levels from " + from, k.x.build(0), from == 18 ? '-' : 'l');
            due("calls", k.x.calls(), from == 18 ? 19 : 0);
            due("looked", k.x.looked(), 20);
            due("trace", k.x.trace(), from == 18 ? 0 : 20);
        }
        keptLevels();
        keptFunctions();
        neededNodes();
        nodesOfCalls();
        levelsAheadOfNodes();
        for (int rounds = 70; rounds <= 71; rounds++) {
            Desk k = new Desk();
            int v = k.v(0);
            int loop = k.two('L', k.two('<', v, k.n(rounds)), k.two('s', 0, k.two('+', v, k.n(1))));
            k.x.function(0, 0, 0, k.one('K', k.then(k.two('s', 0, k.n(0)), loop, v)));
            int nodes = 9 + rounds * 7;
            due("nodes " + nodes, k.x.build(0), nodes <= 500 ? '-' : 'q');
            due("worked", k.x.worked(), Math.min(nodes, 500));
        }
        for (int times = 5; times <= 7; times++) {
            // a kept constant counts all its nodes each time that it is needed
            Desk k = new Desk();
            int v = k.v(0);
            int loop = k.two('L', k.two('<', v, k.n(12)), k.two('s', 0, k.two('+', v, k.n(1))));
            k.x.constant(5, k.then(k.two('s', 0, k.n(0)), loop, v));
            int nodes = 9 + 12 * 7;
            int sum = k.d(5);
            for (int i = 1; i < times; i++) {
                sum = k.two('+', k.d(5), sum);
            }
            k.x.function(0, 0, 0, k.one('K', sum));
            int all = times * nodes + 2 * times - 1;
            due("a constant " + times + " times", k.x.build(0), all <= 500 ? '-' : 'q');
            due("is kept", k.x.constants(), 1);
            due("worked", k.x.worked(), all <= 500 ? nodes + 2 * times - 1 : nodes + 11 + (times - 6));
        }
    }

    /** A node with so many nodes, one for each place: 4 doubled and 1 added for each time. */
    static int doubled(Desk k, int times) {
        int all = k.two('k', k.n(1), k.x.node('t', 0, k.n(8), 0));
        for (int i = 0; i < times; i++) {
            all = k.two('P', all, all);
        }
        return all;
    }

    /** A node that is worked out by so many rounds, with 7 nodes for each and 9 more. */
    static int counted(Desk k, int rounds) {
        int v = k.v(0);
        int loop = k.two('L', k.two('<', v, k.n(rounds)), k.two('s', 0, k.two('+', v, k.n(1))));
        return k.then(k.two('s', 0, k.n(0)), loop, v);
    }

    static void neededNodes() {
        for (int early = 0; early < 2; early++) {
            // constant 5 has 319 nodes, and 6 has 321 of its own
            Desk k = new Desk();
            k.x.constant(5, doubled(k, 6));
            k.x.constant(6, k.two('P', doubled(k, 6), k.d(5)));
            k.x.function(0, 0, 0, k.d(5));
            k.x.function(1, 0, 0, k.d(6));
            if (early == 1) {
                due("what is needed", k.x.build(0), '-');
                due("worked", k.x.worked(), 319);
            }
            due("too many with what is needed", k.x.build(1), 'q');
            due("found in what needs it", k.x.trace(), 2);
            due("constant 6", k.x.traceAt(0), 16);
            due("what is needed is kept", k.x.constants(), 1);
            due("looked", k.x.looked(), 3 - early);
            due("worked", k.x.worked(), 640 - 319 * early);
            // a fault in what is needed is found there, and comes first
            k.x.constant(5, k.then(counted(k, 40), k.two('/', k.n(1), k.n(0))));
            due("its own fault", k.x.build(1), 'z');
            due("found in what is needed", k.x.traceAt(0), 15);
            due("nothing is kept", k.x.constants(), 0);
            // 'K' is counted by itself, too
            k.x.constant(6, k.then(counted(k, 30), k.one('K', k.then(counted(k, 40), k.d(7)))));
            k.x.constant(7, k.n(3));
            due("too many with 'K'", k.x.build(1), 'q');
            due("found behind it", k.x.trace(), 2);
            due("what it needs is kept", k.x.constants(), 1);
            due("worked", k.x.worked(), 513);
        }
    }

    /** Calls that are kept count each time, so n has the nodes of n - 1 twice, and 11 more. */
    static void nodesOfCalls() {
        Desk k = new Desk();
        int p = k.p(0);
        int one = k.n(1);
        int again = k.call(1, k.two('-', p, one), -1);
        k.x.function(1, 1, 0, k.three('i', p, k.two('+', again, again), one));
        k.x.function(0, 0, 0, k.one('K', k.call(1, k.n(9), -1)));
        due("build", k.x.build(0), 'q');
        due("from 0 to 5", k.x.calls(), 6);
        due("found in the call of 6", k.x.trace(), 5);
        due("looked", k.x.looked(), 11);
        k.x.function(0, 0, 0, k.one('K', k.call(1, k.n(5), -1)));
        due("build", k.x.build(0), '-');
        due("looked", k.x.looked(), 1);
    }

    static int inKs(Desk k, int part, int times) {
        int all = part;
        for (int i = 0; i < times; i++) {
            all = k.one('K', all);
        }
        return all;
    }

    static void levelsAheadOfNodes() {
        for (int early = 0; early < 2; early++) {
            Desk k = new Desk();
            k.x.constant(5, doubled(k, 6));
            k.x.constant(6, inKs(k, k.d(5), 9));
            k.x.constant(7, inKs(k, k.d(6), 8));
            int many = k.two('P', doubled(k, 5), doubled(k, 4));
            // 7 has 338 nodes and goes 20 deep, 6 has 329 and goes 11 deep; each is needed behind 240 nodes
            k.x.constant(8, k.two('P', many, k.d(7)));
            k.x.constant(9, k.two('P', many, k.d(6)));
            k.x.function(0, 0, 0, k.d(7));
            k.x.function(1, 0, 0, k.d(8));
            k.x.function(2, 0, 0, k.d(9));
            if (early == 1) {
                due("20 levels", k.x.build(0), '-');
            }
            due("too many nodes", k.x.build(2), 'q');
            due("found in 9", k.x.traceAt(0), 19);
            due("too many of both", k.x.build(1), 'l');
            due("found where the level is, or where a kept one is needed", k.x.traceAt(0), early == 1 ? 18 : 17);
            due("kept", k.x.constants(), early == 1 ? 3 : 2);
        }
    }

    /** Function 1 calls itself for its known parameter less 1, down to 0, and function 0 calls it, in 'K' or not. */
    static Desk descent(int from, boolean inK) {
        Desk k = new Desk();
        int p = k.p(0);
        int one = k.n(1);
        int again = k.call(1, k.two('-', p, one), -1);
        k.x.function(1, 1, 1, k.three('i', k.two('<', p, one), one, k.two('+', p, again)));
        int call = k.call(1, k.n(from), -1);
        k.x.function(0, 0, 0, inK ? k.one('K', call) : call);
        return k;
    }

    static void keptLevels() {
        Desk k = descent(10, true);
        due("build", k.x.build(0), '-');
        due("calls", k.x.calls(), 11);
        k.x.function(2, 0, 0, k.one('K', k.call(1, k.n(18), -1)));
        due("kept ones as deep as they went", k.x.build(2), '-');
        due("looked", k.x.looked(), 9);
        k.x.function(2, 0, 0, k.one('K', k.one('K', k.call(1, k.n(18), -1))));
        due("one level more", k.x.build(2), 'l');
        due("found ahead of all calls", k.x.trace(), 1);
        due("calls are kept", k.x.calls(), 19);
        k.x.function(2, 0, 0, k.one('K', k.call(1, k.n(19), -1)));
        due("one call more", k.x.build(2), 'l');
        due("found in this call", k.x.trace(), 2);
        due("call of 1", k.x.traceAt(0), 21);
        due("function 2", k.x.traceAt(1), 2);
        due("calls are kept", k.x.calls(), 19);
    }

    static void keptFunctions() {
        Desk k = descent(20, false);
        due("build", k.x.build(0), '-');
        due("made", k.x.made(), 22);
        k.x.function(2, 0, 0, k.call(1, k.n(28), -1));
        due("kept ones count", k.x.build(2), '-');
        due("looked", k.x.looked(), 9);
        k.x.function(2, 0, 0, k.then(k.call(1, k.n(28), -1), k.call(0, -1, -1)));
        due("one more that is kept", k.x.build(2), 'q');
        due("found in function 2", k.x.trace(), 1);
        due("nothing else is dropped", k.x.made(), 30);
    }

    static void counts() {
        promise = "9, 10, 11";
        Desk k = new Desk();
        int p = k.p(0);
        k.x.function(1, 2, 1, k.two('+', p, k.p(1)));
        int a = k.call(1, k.n(3), k.n(4));
        int b = k.call(1, k.n(3), k.n(5));
        int c = k.call(1, k.as(3, 8), k.n(4));
        k.x.function(0, 0, 0, k.then(a, b, c));
        due("build", k.x.build(0), '-');
        due("a row is a value and its type", k.x.made(), 3);
        k.x.function(2, 0, 0, k.then(k.one('K', a), k.one('K', b), k.one('K', a)));
        due("build", k.x.build(2), '-');
        due("calls for each row of all arguments", k.x.calls(), 2);
        due("made", k.x.made(), 4);
        k.x.constant(5, k.n(1));
        k.x.constant(6, k.two('+', k.d(5), k.d(5)));
        k.x.function(3, 0, 0, k.d(6));
        due("build", k.x.build(3), '-');
        due("constants", k.x.constants(), 2);
        due("dropped", k.x.function(1, 0, 0, k.n(1)), 6);
        due("made", k.x.made(), 1);
        due("calls", k.x.calls(), 0);
        due("constants", k.x.constants(), 2);
        // a call of a constant has the rest of its calls kept after a fault
        k.x.function(4, 1, 0, k.p(0));
        k.x.function(2, 0, 0, k.then(k.one('K', k.call(4, k.n(1), -1)), k.call(7, -1, -1)));
        due("build", k.x.build(2), 'd');
        due("the call is kept", k.x.calls(), 1);
        due("the function is not", k.x.made(), 1);
    }

    static void looks() {
        promise = "12";
        Desk k = new Desk();
        k.x.constant(5, k.n(1));
        k.x.function(1, 1, 0, k.two('+', k.p(0), k.d(5)));
        int call = k.call(1, k.n(3), -1);
        k.x.function(0, 0, 0, k.then(call, k.one('K', call), call, k.d(5)));
        due("build", k.x.build(0), '-');
        due("functions 0 and 1, the constant, the call", k.x.looked(), 4);
        due("again", k.x.build(0), '-');
        due("nothing", k.x.looked(), 0);
        due("an edit", k.x.function(0, 0, 0, call), 1);
        due("again", k.x.build(0), '-');
        due("function 0 alone", k.x.looked(), 1);
        due("an edit", k.x.constant(5, k.n(2)), 4);
        due("again", k.x.build(0), '-');
        due("functions 0 and 1 and the constant", k.x.looked(), 3);
        due("isWhole", k.x.isWhole() ? 1 : 0, 1);
        due("isWhole looks, and changes nothing", k.x.looked(), 3);
    }

    static void works() {
        promise = "13";
        Desk k = new Desk();
        int two = k.n(2);
        int sum = k.two('+', two, k.n(3));
        k.x.function(0, 0, 0, sum);
        due("build", k.x.build(0), '-');
        due("operators of a made function are not counted", k.x.worked(), 0);
        k.x.function(0, 0, 0, k.one('K', sum));
        due("build", k.x.build(0), '-');
        due("the part of K", k.x.worked(), 3);
        k.x.function(0, 0, 0, k.one('K', k.one('K', sum)));
        due("build", k.x.build(0), '-');
        due("K in K", k.x.worked(), 4);
        k.x.constant(5, sum);
        k.x.function(0, 0, 0, k.then(k.d(5), k.d(5), k.one('K', k.two('*', k.d(5), k.d(5)))));
        due("build", k.x.build(0), '-');
        due("a constant once, and K", k.x.worked(), 6);
        int known = k.one('K', k.two('*', k.d(5), two));
        k.x.function(0, 0, 0, k.two(';', known, known));
        due("build", k.x.build(0), '-');
        due("K at each place, the constant is kept", k.x.worked(), 6);
        k.x.function(0, 0, 0, k.one('K', k.then(k.one('D', sum), two)));
        due("build", k.x.build(0), '-');
        due("what is put off", k.x.worked(), 6);
        due("again", k.x.build(0), '-');
        due("nothing", k.x.worked(), 0);
        k.x.function(0, 0, 0, k.one('K', k.two('+', two, k.two('/', two, k.n(0)))));
        due("a fault", k.x.build(0), 'z');
        due("nodes that were begun", k.x.worked(), 5);
    }

    static void left() {
        promise = "14";
        Desk k = new Desk();
        int p = k.p(0);
        int one = k.n(1);
        k.x.function(0, 1, 0, p);
        k.x.build(0);
        due("p", k.x.nodesLeft(), 1);
        k.x.function(0, 1, 0, k.two('+', p, p));
        k.x.build(0);
        due("p in two places", k.x.nodesLeft(), 3);
        k.x.function(0, 1, 0, k.p(1));
        k.x.build(0);
        due("a parameter that is not there", k.x.nodesLeft(), 0);
        int[] bodies = {k.three('i', one, p, one), k.three('i', p, p, one), k.two('C', one, p), k.two('C', k.e(0), p),
            k.two('C', p, one), k.two(';', one, p), k.two(';', p, one), k.one('T', one), k.one('T', k.e(1)), k.one('T', p),
            k.v(0), k.two('s', 0, one), k.two('L', k.n(0), one), k.one('r', one), k.one('D', one), k.one('E', one),
            k.one('o', one), k.one('y', p), k.x.node('t', 0, p, 0), k.f(), k.two('k', p, k.t(8)), k.two('P', one, p)};
        int[] lefts = {1, 3, 0, 1, 2, 1, 2, 0, 1, 2, 1, 1, 1, 1, 1, 1, 1, 2, 2, 0, 2, 2};
        for (int i = 0; i < bodies.length; i++) {
            k.x.function(0, 1, 0, bodies[i]);
            due("build " + i, k.x.build(0), '-');
            due("left " + i, k.x.nodesLeft(), lefts[i]);
        }
        k.x.function(1, 2, 2, k.two('+', p, k.p(1)));
        k.x.function(0, 1, 0, k.call(1, p, one));
        k.x.build(0);
        due("of all functions", k.x.nodesLeft(), 4);
    }

    static void kindsAndNumbers() {
        promise = "15, 16";
        Desk k = new Desk();
        told("free", k.known(k.n(-5)), "n-5");
        told("whole", k.known(k.as(-5, -8)), "w-5");
        told("one bit", k.known(k.as(1, 1)), "w1");
        told("a signed bit", k.known(k.as(-1, -1)), "w-1");
        told("a float", k.known(k.two('k', k.n(1), k.f())), "f1065353216");
        told("a float less than 0", k.known(k.two('k', k.n(-1), k.f())), "f" + Float.floatToIntBits(-1f));
        told("type 8", k.known(k.t(8)), "t8");
        told("type -32", k.known(k.t(-32)), "t-32");
        told("type of floats", k.known(k.f()), "t99");
        told("type of free numbers", k.known(k.one('y', k.n(0))), "t0");
        told("error", k.known(k.e(7)), "e7");
        told("nothing", k.known(k.p(0)), "-0");
        told("nothing of a variable", k.known(k.v(3)), "-0");
        refused("no number", ILLEGAL, () -> k.x.kindOf(10));
        refused("no number", ILLEGAL, () -> k.x.kindOf(-1));
        refused("no number", ILLEGAL, () -> k.x.numberOf(10));
        refused("no number", ILLEGAL, () -> k.x.numberOf(-1));
        refused("a function", NONE, () -> k.x.kindOf(8));
        refused("a function", NONE, () -> k.x.numberOf(8));
        k.x.constant(3, k.n(1));
        refused("a constant that is not kept", NONE, () -> k.x.kindOf(3));
        refused("a constant that is not kept", NONE, () -> k.x.numberOf(3));
    }

    static void operators() {
        promise = "16, 20: operators";
        Desk k = new Desk();
        Object[][] rows = {
            {'+', 200, 8, 55, 8, "w255"}, {'+', 200, 8, 56, 8, "o"}, {'-', 3, 8, 4, 8, "o"}, {'-', -128, -8, 1, -8, "o"},
            {'*', 16, 8, 16, 8, "o"}, {'*', -16, -8, 8, -8, "w-128"}, {'*', 65536, 32, 65535, 32, "w4294901760"},
            {'/', -7, -8, 2, -8, "w-3"}, {'%', -7, -8, 2, -8, "w-1"}, {'%', 7, -8, -2, -8, "w1"}, {'/', -128, -8, -1, -8, "o"},
            {'%', -128, -8, -1, -8, "w0"}, {'/', 1, 8, 0, 8, "z"}, {'%', 1, 8, 0, 8, "z"}, {'/', 0, 1, 1, 1, "w0"},
            {'<', 1, 8, 2, 8, "w1"}, {'<', 2, 8, 2, 8, "w0"}, {'=', 2, 8, 2, 8, "w1"}, {'=', 2, 8, 3, 8, "w0"},
            {'=', 2, 8, 2, 16, "t"}, {'+', 2, 8, 2, -8, "t"}, {'<', 2, 8, 2, 9, "t"},
            {'P', 200, 8, 100, 8, "w44"}, {'Q', 200, 8, 100, 8, "w255"}, {'P', 100, -8, 100, -8, "w-56"},
            {'Q', 100, -8, 100, -8, "w127"}, {'P', -100, -8, -100, -8, "w56"}, {'Q', -100, -8, -100, -8, "w-128"},
            {'P', 1, 1, 1, 1, "w0"}, {'Q', 1, 1, 1, 1, "w1"}, {'P', -1, -1, -1, -1, "w0"}, {'Q', -1, -1, -1, -1, "w-1"},
            {'P', 2147483647, -32, 1, -32, "w-2147483648"}, {'P', 1, 8, 1, 9, "t"}};
        for (Object[] row : rows) {
            Desk fresh = new Desk();
            int x = fresh.as((Integer) row[1], (Integer) row[2]);
            int y = fresh.as((Integer) row[3], (Integer) row[4]);
            int node = fresh.two((Character) row[0], x, y);
            told(row[0] + " of " + row[1] + " and " + row[3], fresh.known(node), (String) row[5]);
            told("the same in a run", fresh.plain(node, 0, 0), (String) row[5]);
        }
        told("free plus typed", k.known(k.two('+', k.n(1), k.as(2, 8))), "w3");
        told("typed plus free", k.known(k.two('+', k.as(2, 8), k.n(1))), "w3");
        told("free that the type has not", k.known(k.two('+', k.as(2, 8), k.n(256))), "c");
        told("compared with such a one", k.known(k.two('=', k.as(2, 8), k.n(256))), "c");
        told("and the other way round", k.known(k.two('<', k.n(-1), k.as(2, 8))), "c");
        told("by free 0", k.known(k.two('/', k.as(2, 8), k.n(0))), "z");
        int most = k.two('*', k.n(1 << 20), k.n(1 << 20));
        told("the greatest free number", k.known(most), "n1099511627776");
        told("beyond", k.known(k.two('+', most, k.n(1))), "o");
        told("the least one", k.known(k.two('-', k.n(0), most)), "n-1099511627776");
        told("below", k.known(k.two('-', k.two('-', k.n(0), most), k.n(1))), "o");
        told("far beyond", k.known(k.two('*', most, most)), "o");
        told("times 0", k.known(k.two('*', most, k.n(0))), "n0");
        told("P of free ones", k.known(k.two('P', k.n(1), k.n(1))), "t");
        told("Q of free ones", k.known(k.two('Q', k.n(1), k.n(1))), "t");
        told("P of free and typed", k.known(k.two('P', k.n(255), k.as(2, 8))), "w1");
        Desk j = new Desk();
        told("+ of an error", j.known(j.two('+', j.e(1), j.n(1))), "t");
        told("< of types", j.known(j.two('<', j.f(), j.f())), "t");
        told("= of types", j.known(j.two('=', j.t(8), j.t(8))), "w1");
        told("= of unlike types", j.known(j.two('=', j.t(8), j.t(-8))), "w0");
        told("= of errors", j.known(j.two('=', j.e(1), j.e(1))), "w1");
        told("= of unlike errors", j.known(j.two('=', j.e(1), j.e(2))), "w0");
        told("= of nothing", j.known(j.two('=', j.v(0), j.p(0))), "w1");
        told("= of an error and its number", j.known(j.two('=', j.e(1), j.n(1))), "w0");
        told("= of nothing and 0", j.known(j.two('=', j.as(0, 8), j.v(0))), "w0");
        told("a condition that is an error", j.known(j.three('i', j.e(0), j.n(1), j.n(2))), "t");
        told("a float as a condition", j.known(j.three('i', j.two('k', j.n(1), j.f()), j.n(1), j.n(2))), "t");
        told("a typed condition", j.known(j.three('i', j.as(-3, -8), j.n(1), j.n(2))), "n1");
        told("a condition that is 0", j.known(j.three('i', j.as(0, 8), j.n(1), j.n(2))), "n2");
        told("a type as a condition of L", j.known(j.two('L', j.f(), j.n(1))), "t");
    }

    static void conversions() {
        promise = "16, 20: 'k'";
        int[] bits = {1, 2, 7, 8, 16, 31, 32};
        for (int b : bits) {
            Desk k = new Desk();
            long most = (1L << b) - 1;
            long half = 1L << b - 1;
            told("most of " + b, k.known(k.two('k', number(k, most), k.t(b))), "w" + most);
            told("beyond " + b, k.known(k.two('k', number(k, most + 1), k.t(b))), "c");
            told("below " + b, k.known(k.two('k', k.n(-1), k.t(b))), "c");
            told("most of -" + b, k.known(k.two('k', number(k, half - 1), k.t(-b))), "w" + (half - 1));
            told("beyond -" + b, k.known(k.two('k', number(k, half), k.t(-b))), "c");
            told("least of -" + b, k.known(k.two('k', number(k, -half), k.t(-b))), "w" + -half);
            told("below -" + b, k.known(k.two('k', number(k, -half - 1), k.t(-b))), "c");
        }
        Desk k = new Desk();
        int free = k.one('y', k.n(0));
        told("to free", k.known(k.two('k', k.as(7, 8), free)), "n7");
        told("free to free", k.known(k.two('k', k.n(7), free)), "n7");
        told("whole to whole", k.known(k.two('k', k.as(7, 8), k.t(-4))), "w7");
        told("whole to whole that has it not", k.known(k.two('k', k.as(8, 8), k.t(-4))), "c");
        told("an error", k.known(k.two('k', k.e(1), k.t(8))), "t");
        told("to a number", k.known(k.two('k', k.n(1), k.n(8))), "t");
        told("a type to a type", k.known(k.two('k', k.f(), k.f())), "t");
        told("nothing", k.known(k.two('k', k.v(0), free)), "t");
        int f = k.f();
        int half = k.two('/', k.two('k', k.n(1), f), k.n(2));
        told("a half", k.known(half), "f" + Float.floatToIntBits(0.5f));
        told("a half to free", k.known(k.two('k', half, free)), "c");
        told("a float stays", k.known(k.two('k', half, f)), "f" + Float.floatToIntBits(0.5f));
        told("a whole float", k.known(k.two('k', k.two('+', half, half), k.t(8))), "w1");
        told("one that the type has not", k.known(k.two('k', k.two('k', k.n(256), f), k.t(8))), "c");
        told("24 bits", k.known(k.two('k', k.n(16777215), f)), "f" + Float.floatToIntBits(16777215f));
        told("25 bits", k.known(k.two('k', k.n(16777217), f)), "c");
        told("an even one", k.known(k.two('k', k.n(16777218), f)), "f" + Float.floatToIntBits(16777218f));
        int zero = k.two('k', k.n(0), f);
        told("0", k.known(zero), "f0");
        told("infinite", k.known(k.two('k', k.two('/', k.two('k', k.n(1), f), zero), free)), "c");
        told("not a number", k.known(k.two('k', k.two('/', zero, zero), free)), "c");
        told("-0", k.known(k.two('k', k.two('*', zero, k.two('k', k.n(-1), f)), free)), "n0");
        int big = k.two('k', k.n(1 << 30), f);
        told("the greatest free one", k.known(k.two('k', k.two('*', big, k.n(1 << 10)), free)), "n1099511627776");
        told("beyond it", k.known(k.two('k', k.two('*', big, k.n(1 << 11)), free)), "c");
    }

    static int number(Desk k, long number) {
        if (number == (int) number) {
            return k.n((int) number);
        }
        return k.two('+', k.two('*', k.n((int) (number >> 16)), k.n(65536)), k.n((int) (number & 65535)));
    }

    static void types() {
        promise = "16, 20: 't', 'y', 'z', 'x'";
        Desk k = new Desk();
        told("t of 0", k.known(k.x.node('t', 0, k.n(0), 0)), "t");
        told("t of 33", k.known(k.x.node('t', 1, k.n(33), 0)), "t");
        told("t of -1", k.known(k.x.node('t', 1, k.n(-1), 0)), "t");
        told("t of 1", k.known(k.x.node('t', 1, k.n(1), 0)), "t-1");
        told("t of a typed one", k.known(k.x.node('t', 0, k.as(32, 8), 0)), "t32");
        told("t of a float", k.known(k.x.node('t', 0, k.two('k', k.n(8), k.f()), 0)), "t");
        told("t of an error", k.known(k.x.node('t', 0, k.e(8), 0)), "t");
        told("y of a whole one", k.known(k.one('y', k.as(3, -5))), "t-5");
        told("y of a float", k.known(k.one('y', k.two('k', k.n(8), k.f()))), "t99");
        told("y of <", k.known(k.one('y', k.two('<', k.n(1), k.n(2)))), "t1");
        told("y of a type", k.known(k.one('y', k.f())), "t");
        told("y of an error", k.known(k.one('y', k.e(1))), "t");
        told("y of nothing", k.known(k.one('y', k.v(1))), "t");
        told("z of 8", k.known(k.one('z', k.t(8))), "n8");
        told("z of -31", k.known(k.one('z', k.t(-31))), "n31");
        told("z of floats", k.known(k.one('z', k.f())), "n32");
        told("z of free numbers", k.known(k.one('z', k.one('y', k.n(8)))), "n0");
        told("z of a number", k.known(k.one('z', k.n(8))), "t");
        told("x of -2", k.known(k.one('x', k.two('k', k.n(-2), k.f()))), "w" + Float.floatToIntBits(-2f));
        told("its type", k.known(k.one('y', k.one('x', k.two('k', k.n(-2), k.f())))), "t-32");
        told("x of a number", k.known(k.one('x', k.n(8))), "t");
        told("x of a type", k.known(k.one('x', k.f())), "t");
    }

    static void floats() {
        promise = "16, 20: floats";
        Desk k = new Desk();
        int f = k.f();
        int one = k.two('k', k.n(1), f);
        int three = k.two('k', k.n(3), f);
        int zero = k.two('k', k.n(0), f);
        told("1 / 3", k.known(k.two('/', one, three)), "f" + Float.floatToIntBits(1f / 3f));
        told("-7 % 3", k.known(k.two('%', k.two('k', k.n(-7), f), three)), "f" + Float.floatToIntBits(-7f % 3f));
        told("1 / 0", k.known(k.two('/', one, zero)), "f" + 0x7f800000);
        told("1 % 0", k.known(k.two('%', one, zero)), "f" + 0x7fc00000);
        int nan = k.two('/', zero, zero);
        told("0 / 0", k.known(nan), "f" + 0x7fc00000);
        told("NaN = NaN", k.known(k.two('=', nan, nan)), "w0");
        told("NaN < 1", k.known(k.two('<', nan, one)), "w0");
        int minus = k.two('*', zero, k.n(-1));
        told("-0", k.known(minus), "f" + Integer.MIN_VALUE);
        told("-0 = 0", k.known(k.two('=', minus, zero)), "w1");
        told("-0 < 0", k.known(k.two('<', minus, zero)), "w0");
        told("-1 < 1", k.known(k.two('<', k.two('k', k.n(-1), f), one)), "w1");
        told("free becomes a float", k.known(k.two('+', one, k.n(2))), "f" + Float.floatToIntBits(3f));
        told("free that no float is", k.known(k.two('+', k.n(16777217), one)), "c");
        told("whole and float", k.known(k.two('+', k.as(1, 8), one)), "t");
        told("P", k.known(k.two('P', one, one)), "t");
        told("Q", k.known(k.two('Q', one, k.n(1))), "t");
        told("x - x", k.known(k.two('-', three, three)), "f0");
        // a row of arguments is the same if the bits are: -0 and 0 are two rows, all NaN one
        k.x.function(1, 1, 1, k.p(0));
        int other = k.two('-', k.two('/', one, zero), k.two('/', one, zero));
        k.x.function(2, 0, 0, k.then(k.call(1, zero, -1), k.call(1, minus, -1), k.call(1, nan, -1), k.call(1, other, -1)));
        due("build", k.x.build(2), '-');
        due("rows", k.x.made(), 1 + 3 + 1);
    }

    static void runs() {
        promise = "17, 19, 20, 23";
        Desk k = new Desk();
        int p = k.p(0);
        told("s32", k.built(p, -7, 0), "w-7");
        told("the second one", k.built(k.p(1), 1, Integer.MIN_VALUE), "w-2147483648");
        told("its type", k.built(k.one('y', p), 1, 1), "t-32");
        told("o", k.built(k.two('+', p, k.p(1)), Integer.MAX_VALUE, 1), "o");
        told("z", k.built(k.two('/', p, k.p(1)), 1, 0), "z");
        refused("no kind", NONE, k.x::resultKind);
        refused("no number", NONE, k.x::result);
        due("three nodes", k.x.steps(), 3);
        told("c", k.built(k.two('k', p, k.t(8)), -1, 0), "c");
        told("t", k.built(k.two('+', p, k.v(0)), -1, 0), "t");
        k.x.function(0, 1, 0, k.then(k.three('i', k.n(1), p, k.n(9)), k.two('C', k.e(1), p), k.one('T', k.n(3)), p));
        k.x.build(0);
        due("run", k.x.run(4, 4), 'v');
        // ';' of an unknown part each, but for the known T, which is passed over
        due("nodes that are others count as these", k.x.steps(), 5);
        due("plain", k.x.plain(0, 4, 4), 'v');
        due("plainly all count", k.x.steps(), 3 + 3 + 3 + 2 + 1);
        told("a known one", k.built(k.two('+', k.n(2), k.n(2)), 0, 0), "n4");
        due("is one node", k.x.steps(), 1);
        k.x.function(1, 2, 3, k.two('+', p, k.p(1)));
        told("known arguments are worked out", k.built(k.call(1, k.n(2), k.two('+', k.n(2), k.n(3))), 0, 0), "n7");
        due("a call, two arguments, a body", k.x.steps(), 4);
        told("a missing argument is no node", k.built(k.then(k.call(1, k.n(2), k.n(1)), k.n(1)), 0, 0), "n1");
        k.x.function(2, 2, 0, k.p(1));
        told("and is nothing", k.built(k.call(2, k.n(2), -1), 0, 0), "-0");
        due("call, argument, body", k.x.steps(), 3);
        told("the first one is missing", k.built(k.call(2, -1, k.n(2)), 0, 0), "n2");
        k.x.function(2, 1, 0, k.p(1));
        told("an argument too many is left out", k.built(k.call(2, k.n(2), k.two('/', k.n(1), k.v(0))), 0, 0), "-0");
        due("an edit", k.x.function(2, 1, 0, p), 2);
        refused("dropped", STATE, () -> k.x.run(0, 0));
        due("steps are those of the last run", k.x.steps(), 3);
        due("build", k.x.build(0), '-');
        due("run", k.x.run(0, 0), 'v');
        due("a build with a fault", k.x.build(7), 'd');
        due("the last one without is run", k.x.run(0, 0), 'v');
        k.x.function(7, 0, 0, k.n(5));
        due("another build", k.x.build(7), '-');
        due("run", k.x.run(0, 0), 'v');
        due("of function 7", k.x.result(), 5);
        due("an edit of the other one", k.x.function(0, 0, 0, k.n(5)), 1);
        due("drops nothing of it", k.x.run(0, 0), 'v');
        due("an edit of it", k.x.remove(7), 1);
        refused("dropped", STATE, () -> k.x.run(0, 0));
        due("another one", k.x.build(0), '-');
        due("is run", k.x.run(0, 0), 'v');
    }

    static void leaving() {
        promise = "17, 18: leaving";
        Desk k = new Desk();
        int one = k.n(1);
        String[] both = {
            either(k, k.then(k.one('r', one), k.n(2))), "n1",
            either(k, k.two('+', k.one('r', one), k.n(2))), "n1",
            either(k, k.then(k.one('T', k.e(4)), k.n(2))), "e4",
            either(k, k.two('+', k.one('T', one), k.n(2))), "n3",
            either(k, k.two('C', k.e(4), k.n(2))), "n2",
            either(k, k.two('C', one, k.n(2))), "n1",
            either(k, k.two('C', k.one('T', k.e(4)), k.n(2))), "e4",
            either(k, k.then(k.two('s', 1, k.n(8)), k.v(1))), "n8",
            either(k, k.two('s', 1, k.n(8))), "-0",
            either(k, k.one('D', k.n(8))), "-0",
            either(k, k.then(k.two('s', 1, k.n(8)), k.one('K', k.v(1)))), "-0",
            either(k, k.then(k.one('K', k.one('r', k.n(8))), k.n(9))), "n9",
            either(k, k.one('K', k.one('T', k.e(8)))), "e8",
            either(k, k.two('C', k.one('K', k.one('T', k.e(8))), k.n(6))), "n6"};
        for (int i = 0; i < both.length; i += 2) {
            told("run " + i, both[i], both[i + 1]);
        }
        order(k, k.then(off(k, 'D', 1), off(k, 'D', 2), one), "21", "n1");
        order(k, k.then(off(k, 'E', 1), off(k, 'D', 2), one), "2", "n1");
        order(k, k.then(off(k, 'E', 1), off(k, 'D', 2), k.e(3)), "21", "e3");
        order(k, k.then(off(k, 'E', 1), k.one('T', k.e(3)), off(k, 'D', 2), one), "1", "e3");
        order(k, k.then(off(k, 'E', 1), k.one('r', k.e(3)), one), "1", "e3");
        k = new Desk();
        one = k.n(1);
        int leaves = k.then(k.one('o', k.n(5)), k.one('r', k.e(3)), k.one('o', k.n(6)));
        order(k, k.then(off(k, 'D', 1), k.one('D', leaves), off(k, 'E', 2), one), "51", "n1");
        int within = k.then(k.one('o', k.n(5)), off(k, 'D', 7), k.one('o', k.n(6)), off(k, 'E', 8));
        order(k, k.then(off(k, 'D', 1), k.one('D', within), one), "5671", "n1");
        order(k, k.then(off(k, 'D', 1), k.one('D', within), k.e(2)), "56871", "e2");
        int sets = k.one('D', k.two('s', 0, k.n(4)));
        order(k, k.then(k.one('D', k.one('o', k.v(0))), sets, k.two('s', 0, one), k.v(0)), "4", "n1");
        order(k, k.then(k.one('D', k.one('r', k.n(4))), one), "", "n1");
        k.x.function(1, 0, 0, k.then(off(k, 'D', 3), off(k, 'E', 4), k.e(1)));
        order(k, k.then(off(k, 'D', 1), k.call(1, -1, -1), off(k, 'D', 2), one), "4321", "n1");
        k.x.function(0, 0, 0, k.then(off(k, 'D', 1), k.two('/', k.v(0), one)));
        due("a fault ends all at once", k.x.plain(0, 0, 0), 't');
        due("nothing is done", k.x.outputs(), 0);
        manyPutOff();
    }

    static void manyPutOff() {
        Desk k = new Desk();
        int v = k.v(0);
        int off = k.one('D', k.n(1));
        int three = k.then(off, off, off);
        int more = k.then(three, three, k.two('s', 0, k.two('+', v, k.n(1))));
        int start = k.two('s', 0, k.two('k', k.n(0), k.t(-32)));
        k.x.function(0, 1, 0, k.then(start, k.two('L', k.two('<', v, k.p(0)), more), v));
        due("plain", k.x.plain(0, 70, 0), 'v');
        due("420 parts are put off", k.x.steps(), 12 + 70 * 25);
        k.x.constant(5, k.then(k.two('s', 0, k.n(0)), k.two('L', k.two('<', v, k.n(18)), more), v));
        k.x.function(0, 0, 0, k.d(5));
        due("build", k.x.build(0), '-');
        due("108 parts are put off", k.x.worked(), 9 + 18 * 25);
    }

    static int off(Desk k, char kind, int number) {
        return k.one(kind, k.one('o', k.n(number)));
    }

    static String either(Desk k, int body) {
        String plain = k.plain(body, 0, 0);
        told("plain and built are the same", k.built(body, 0, 0), plain);
        return plain;
    }

    static void order(Desk k, int body, String outputs, String value) {
        for (int turn = 0; turn < 2; turn++) {
            told("value", turn == 0 ? k.plain(body, 0, 0) : k.built(body, 0, 0), value);
            StringBuilder put = new StringBuilder();
            for (int i = 0; i < k.x.outputs(); i++) {
                put.append(k.x.output(i));
            }
            told("put out", put.toString(), outputs);
        }
    }

    static void loops() {
        promise = "17, 18: 'L' and 2000 nodes";
        for (int rounds = 284; rounds <= 285; rounds++) {
            Desk k = new Desk();
            int v = k.v(0);
            int loop = k.two('L', k.two('<', v, k.p(0)), k.two('s', 0, k.two('+', v, k.n(1))));
            int all = k.then(k.two('s', 0, k.two('k', k.n(0), k.t(-32))), loop, v);
            int nodes = 3 + 4 + 1 + 7 * rounds + 3 + 1;
            k.x.function(0, 1, 0, all);
            due("plain of " + nodes, k.x.plain(0, rounds, 0), nodes <= 2000 ? 'v' : 'l');
            due("steps", k.x.steps(), Math.min(nodes, 2000));
            k.x.build(0);
            due("run", k.x.run(rounds, 0), nodes - 3 <= 2000 ? 'v' : 'l');
            due("steps", k.x.steps(), Math.min(nodes - 3, 2000));
            if (nodes - 3 <= 2000) {
                due("result", k.x.result(), rounds);
            }
        }
        Desk k = new Desk();
        told("for ever", k.plain(k.two('L', k.n(1), k.n(1)), 0, 0), "l");
        told("for ever", k.built(k.two('L', k.n(1), k.n(1)), 0, 0), "l");
        told("left in a loop", k.plain(k.two('L', k.n(1), k.one('r', k.n(5))), 0, 0), "n5");
        told("never", k.plain(k.two('L', k.n(0), k.two('/', k.n(1), k.n(0))), 0, 0), "-0");
        told("no condition", k.plain(k.two('L', k.e(0), k.n(1)), 0, 0), "t");
    }

    static void callsWithin() {
        promise = "17, 18: 20 calls within one another";
        for (int deep = 18; deep <= 20; deep++) {
            Desk k = new Desk();
            int p = k.p(0);
            int again = k.call(1, k.two('-', p, k.n(1)), -1);
            k.x.function(1, 1, 0, k.three('i', p, again, p));
            k.x.function(0, 1, 0, k.call(1, p, -1));
            char due = deep == 18 ? 'v' : 'l';
            due("plain of " + deep, k.x.plain(0, deep, 0), due);
            due("build", k.x.build(0), '-');
            due("run of " + deep, k.x.run(deep, 0), due);
        }
        Desk k = new Desk();
        int node = k.n(1);
        for (int i = 0; i < 9; i++) {
            node = k.one('K', node);
        }
        k.x.constant(5, node);
        node = k.d(5);
        for (int i = 0; i < 9; i++) {
            node = k.one('K', node);
        }
        k.x.function(0, 0, 0, node);
        due("a run, 18 'K' and a constant", k.x.plain(0, 0, 0), 'v');
        due("steps", k.x.steps(), 20);
        k.x.function(1, 0, 0, k.call(0, -1, -1));
        due("and a call", k.x.plain(1, 0, 0), 'l');
        due("build", k.x.build(1), '-');
        due("but not in a run of what is known", k.x.run(0, 0), 'v');
        due("steps", k.x.steps(), 2);
        k.x.constant(6, k.d(6));
        k.x.function(1, 0, 0, k.d(6));
        due("a constant of itself", k.x.plain(1, 0, 0), 'l');
    }

    static void plainly() {
        promise = "18";
        Desk k = new Desk();
        refused("no number", ILLEGAL, () -> k.x.plain(10, 0, 0));
        refused("no number", ILLEGAL, () -> k.x.plain(-1, 0, 0));
        due("not there", k.x.plain(0, 0, 0), 'd');
        k.x.constant(0, k.n(1));
        due("a constant", k.x.plain(0, 0, 0), 'd');
        due("steps", k.x.steps(), 0);
        k.x.function(1, 2, 3, k.two('-', k.p(0), k.p(1)));
        due("known parameters are as others", k.x.plain(1, 5, 9), 'v');
        due("result", k.x.result(), -4);
        due("kind", k.x.resultKind(), 'w');
        k.x.function(1, 1, 0, k.p(1));
        due("a parameter that is not there", k.x.plain(1, 5, 9), 'v');
        due("is nothing", k.x.resultKind(), '-');
        k.x.function(1, 1, 0, k.one('K', k.p(0)));
        due("K of a parameter", k.x.plain(1, 5, 9), 'v');
        due("result", k.x.result(), 5);
        k.x.function(1, 1, 0, k.one('K', k.one('o', k.p(0))));
        due("K puts out", k.x.plain(1, 5, 9), 'v');
        due("outputs", k.x.outputs(), 1);
        k.x.constant(5, k.two('+', k.n(1), k.n(2)));
        k.x.function(1, 0, 0, k.two('*', k.d(5), k.d(5)));
        due("constants", k.x.plain(1, 0, 0), 'v');
        due("are worked out each time", k.x.steps(), 9);
        due("and not kept", k.x.constants(), 0);
        k.x.function(1, 0, 0, k.d(1));
        due("a function as a constant", k.x.plain(1, 0, 0), 'd');
        k.x.function(1, 0, 0, k.call(0, -1, -1));
        due("a constant as a function", k.x.plain(1, 0, 0), 'd');
        due("steps", k.x.steps(), 1);
        k.x.function(1, 0, 0, k.three('i', k.n(0), k.d(9), k.n(1)));
        due("what is not reached", k.x.plain(1, 0, 0), 'v');
    }

    static void outputs() {
        promise = "21, 22";
        Desk k = new Desk();
        int v = k.v(0);
        int loop = k.two('L', k.two('<', v, k.p(0)), k.then(k.one('o', v), k.two('s', 0, k.two('+', v, k.n(1)))));
        int all = k.then(k.two('s', 0, k.two('k', k.n(0), k.t(-32))), loop, v);
        k.x.function(0, 1, 0, all);
        due("plain", k.x.plain(0, 45, 0), 'v');
        due("all are counted", k.x.outputs(), 45);
        due("the first one", k.x.output(0), 0);
        due("the last one", k.x.output(39), 39);
        refused("counted alone", INDEX, () -> k.x.output(40));
        refused("counted alone", INDEX, () -> k.x.output(44));
        refused("none", INDEX, () -> k.x.output(45));
        refused("none", INDEX, () -> k.x.output(-1));
        due("plain", k.x.plain(0, 2, 0), 'v');
        due("outputs", k.x.outputs(), 2);
        refused("none", INDEX, () -> k.x.output(2));
        k.x.function(1, 0, 0, k.then(k.one('o', k.e(4)), k.one('o', k.t(-6)), k.one('o', k.f()), k.one('o', k.v(1)),
                k.one('o', k.two('k', k.n(-1), k.f())), k.two('/', k.n(1), k.v(0))));
        due("a fault", k.x.plain(1, 0, 0), 't');
        due("what was put out ahead", k.x.outputs(), 5);
        long[] put = {4, -6, 99, 0, Float.floatToIntBits(-1f)};
        for (int i = 0; i < put.length; i++) {
            due("output " + i, k.x.output(i), put[i]);
        }
        due("no function", k.x.plain(9, 0, 0), 'd');
        due("nothing put out", k.x.outputs(), 0);
    }

    static void figures() {
        promise = "24, 25";
        Desk k = new Desk();
        k.x.function(0, 1, 0, k.two('/', k.n(1), k.p(0)));
        refused("no runs", ARITHMETIC, () -> (long) k.x.valueShare());
        refused("none is made", ARITHMETIC, () -> (long) k.x.meanLeft());
        k.x.plain(0, 1, 0);
        due("1 of 1", Float.floatToIntBits(k.x.valueShare()), Float.floatToIntBits(1f));
        k.x.plain(0, 0, 0);
        k.x.plain(7, 0, 0);
        due("1 of 3", Float.floatToIntBits(k.x.valueShare()), Float.floatToIntBits(1f / 3f));
        refused("a run that is refused", STATE, () -> k.x.run(0, 0));
        refused("a run that is refused", ILLEGAL, () -> k.x.plain(10, 0, 0));
        due("does not count", Float.floatToIntBits(k.x.valueShare()), Float.floatToIntBits(1f / 3f));
        k.x.function(1, 0, 0, k.n(1));
        k.x.function(2, 0, 0, k.then(k.call(1, -1, -1), k.call(0, k.n(1), -1)));
        due("build", k.x.build(2), '-');
        due("5 of 3", Double.doubleToLongBits(k.x.meanLeft()), Double.doubleToLongBits(5.0 / 3.0));
        k.x.run(0, 0);
        due("2 of 4", Float.floatToIntBits(k.x.valueShare()), Float.floatToIntBits(0.5f));
        k.x.remove(2);
        k.x.remove(0);
        due("0 of 1", Double.doubleToLongBits(k.x.meanLeft()), 0);
        k.x.remove(1);
        refused("none is made", ARITHMETIC, () -> (long) k.x.meanLeft());
    }

    static void wholeness() {
        promise = "26";
        Desk k = descent(6, true);
        due("nothing was built", k.x.isWhole() ? 1 : 0, 1);
        k.x.build(0);
        due("built", k.x.isWhole() ? 1 : 0, 1);
        due("nothing changes", k.x.looked(), 8);
        due("nothing changes", k.x.worked(), 67);
        due("nothing changes", k.x.calls(), 7);
        due("nothing changes", k.x.made(), 1);
        due("an edit", k.x.function(0, 0, 0, k.n(1)), 1);
        due("dropped since", k.x.isWhole() ? 1 : 0, 1);
        due("a fault", k.x.build(9), 'd');
        due("after a fault", k.x.isWhole() ? 1 : 0, 1);
    }

    static void drops() {
        promise = "3 to 6: what is dropped";
        Desk k = new Desk();
        int p = k.p(0);
        // functions 1 and 2 lead to one another; 2 is done when the fault is found in 1
        k.x.function(2, 1, 0, k.call(1, p, -1));
        k.x.function(3, 1, 0, p);
        k.x.function(1, 1, 0, k.then(k.call(3, p, -1), k.call(2, p, -1), k.d(5)));
        k.x.function(0, 0, 0, k.call(1, k.n(1), -1));
        due("build", k.x.build(0), 'd');
        due("function 3 alone is kept", k.x.made(), 1);
        due("trace", k.x.trace(), 2);
        k.x.constant(5, k.n(1));
        due("build", k.x.build(0), '-');
        due("looked", k.x.looked(), 4);
        due("made", k.x.made(), 4);
        due("an edit of 5 drops 0, 1, 2 and the constant", k.x.constant(5, k.n(1)), 4);
        due("made", k.x.made(), 1);
        due("build", k.x.build(2), '-');
        due("made", k.x.made(), 3);
        due("an edit of 3 drops 3, 2 and 1", k.x.function(3, 1, 0, p), 3);
        due("constants", k.x.constants(), 1);
        // a call is dropped by what it looked at as it was worked out, and not by what it did not
        k.x.constant(6, k.n(2));
        k.x.function(4, 1, 0, k.three('i', p, k.d(5), k.d(6)));
        k.x.function(0, 0, 0, k.two('+', k.one('K', k.call(4, k.n(0), -1)), k.one('K', k.call(4, k.n(1), -1))));
        due("build", k.x.build(0), '-');
        due("calls", k.x.calls(), 2);
        due("an edit of 6: function 0, the constant, one call", k.x.constant(6, k.n(3)), 3);
        due("calls", k.x.calls(), 1);
        due("build", k.x.build(0), '-');
        due("looked", k.x.looked(), 3);
        due("run", k.x.run(0, 0), 'v');
        due("result", k.x.result(), 4);
        argumentThatLeaves();
    }

    /** A call whose argument leaves ahead of it has looked at the function, which tells how many arguments there are. */
    static void argumentThatLeaves() {
        Desk k = new Desk();
        k.x.function(1, 1, 0, k.n(7));
        k.x.constant(5, k.call(1, k.one('r', k.n(3)), -1));
        k.x.function(0, 0, 0, k.d(5));
        due("build", k.x.build(0), '-');
        due("left by the argument", k.x.numberOf(5), 3);
        due("no call", k.x.calls(), 0);
        due("an edit of 1 drops 0 and the constant", k.x.function(1, 0, 0, k.n(8)), 2);
        due("build", k.x.build(0), '-');
        due("called without arguments", k.x.numberOf(5), 8);
        due("isWhole", k.x.isWhole() ? 1 : 0, 1);
    }
}
