import java.util.Arrays;
import java.util.HashMap;
import java.util.Map;
import java.util.NoSuchElementException;

/**
 * Each sentence of ../shared/DOC.md that names an edge (too small, too large, empty, full, a refused call), told by its
 * own words: the last case that is allowed, and the first one that is not.
 */
public class EdgeRuns {
    static int wrong = 0;
    static int sentences = 0;
    static String sentence = "";

    interface Act {
        long of();
    }

    static final Class<IllegalArgumentException> ILLEGAL = IllegalArgumentException.class;
    static final Class<IllegalStateException> STATE = IllegalStateException.class;
    static final Class<NoSuchElementException> NONE = NoSuchElementException.class;
    static final Class<IndexOutOfBoundsException> INDEX = IndexOutOfBoundsException.class;
    static final Class<ArithmeticException> ARITHMETIC = ArithmeticException.class;

    /** The numbers far outside of every range, and next to the ranges of declarations. */
    static final int[] NO_DECLARATION = {-1, 10, 11, Integer.MIN_VALUE, Integer.MAX_VALUE};

    static void says(String words) {
        sentence = words;
        sentences++;
    }

    static void fail(String what) {
        wrong++;
        System.out.println("\"" + sentence + "\": " + what);
    }

    static void due(String what, long got, long want) {
        if (got != want) {
            fail(what + " answered " + got + ", due is " + want);
        }
    }

    static void told(String what, String got, String want) {
        if (!got.equals(want)) {
            fail(what + " came to " + got + ", due is " + want);
        }
    }

    static void refused(String what, Class<? extends Exception> want, Act act) {
        try {
            fail(what + " answered " + act.of() + ", due is " + want.getSimpleName());
        } catch (RuntimeException e) {
            if (e.getClass() != want) {
                fail(what + " threw " + e + ", due is " + want.getSimpleName());
            }
        }
    }

    /** A bench that takes nodes as texts, each kind ahead of its numbers and parts. */
    static final class Desk {
        final ComptimeBench x = new ComptimeBench();
        private final Map<String, Integer> known = new HashMap<>();
        private String[] words;
        private int word;

        int node(char kind, int a, int b, int c) {
            String key = kind + "," + a + "," + b + "," + c;
            Integer node = known.get(key);
            if (node == null) {
                node = x.node(kind, a, b, c);
                known.put(key, node);
            }
            return node;
        }

        /**
         * n5 e5 p0 v0 d5 F are themselves, and so are s0, c1 (with _ for an argument that is not there), t+ (without a
         * sign) and t- ahead of their parts; t8 and t-8 are types, w5:8 is 5 of such a type, f5 is 5 as a float, free
         * the type of free numbers, and N5 a free number that may be great.
         */
        int tree(String text) {
            words = text.trim().split(" +");
            word = 0;
            int node = part();
            if (word != words.length) {
                throw new IllegalStateException("too much in " + text);
            }
            return node;
        }

        private int part() {
            String w = words[word++];
            char kind = w.charAt(0);
            if (w.equals("_")) {
                return -1;
            }
            if (w.equals("free")) {
                return node('y', node('n', 0, 0, 0), 0, 0);
            }
            if (w.equals("t+") || w.equals("t-")) {
                return node('t', w.equals("t-") ? 1 : 0, part(), 0);
            }
            String number = w.substring(1);
            switch (kind) {
                case 'n': case 'e': case 'p': case 'v': case 'd':
                    return node(kind, Integer.parseInt(number), 0, 0);
                case 'F':
                    return node('F', 0, 0, 0);
                case 't':
                    return type(Integer.parseInt(number));
                case 'w':
                    int cut = number.indexOf(':');
                    int of = whole(Long.parseLong(number.substring(0, cut)));
                    return node('k', of, type(Integer.parseInt(number.substring(cut + 1))), 0);
                case 'f':
                    return node('k', whole(Long.parseLong(number)), node('F', 0, 0, 0), 0);
                case 'N':
                    return whole(Long.parseLong(number));
                case 's':
                    return node('s', Integer.parseInt(number), part(), 0);
                case 'c': {
                    int b = part();
                    return node('c', Integer.parseInt(number), b, part());
                }
                case 'i': {
                    int a = part();
                    int b = part();
                    return node('i', a, b, part());
                }
                case 'y': case 'z': case 'x': case 'K': case 'T': case 'r': case 'D': case 'E': case 'o':
                    return node(kind, part(), 0, 0);
                default: {
                    int a = part();
                    return node(kind, a, part(), 0);
                }
            }
        }

        private int type(int bits) {
            return node('t', bits < 0 ? 1 : 0, node('n', Math.abs(bits), 0, 0), 0);
        }

        private int whole(long number) {
            if (number == (int) number) {
                return node('n', (int) number, 0, 0);
            }
            int high = node('*', node('n', (int) (number >> 20), 0, 0), node('n', 1 << 20, 0, 0), 0);
            int low = (int) (number & (1 << 20) - 1);
            return low == 0 ? high : node('+', high, node('n', low, 0, 0), 0);
        }

        int constant(int declaration, String body) {
            return x.constant(declaration, tree(body));
        }

        int function(int declaration, int parameters, int known, String body) {
            return x.function(declaration, parameters, known, tree(body));
        }

        String value() {
            return x.resultKind() + "" + x.result();
        }

        /** What a body comes to as function 0 with two parameters, run plainly: kind and number, or the fault. */
        String plain(String body, int first, int second) {
            function(0, 2, 0, body);
            char end = x.plain(0, first, second);
            return end == 'v' ? value() : "" + end;
        }

        /** The same by a build and a run; a fault of the build behind '!'. */
        String built(String body, int first, int second) {
            function(0, 2, 0, body);
            char end = x.build(0);
            if (end != '-') {
                return "!" + end;
            }
            end = x.run(first, second);
            return end == 'v' ? value() : "" + end;
        }

        /** The same as constant 9, by a build. */
        String kept(String body) {
            constant(9, body);
            function(8, 0, 0, "d9");
            char end = x.build(8);
            return end == '-' ? x.kindOf(9) + "" + x.numberOf(9) : "" + end;
        }

        /** What building a body as function 0 with some parameters ends with. */
        char ends(int parameters, String body) {
            function(0, parameters, 0, body);
            return x.build(0);
        }

        String trace() {
            StringBuilder all = new StringBuilder();
            for (int i = 0; i < x.trace(); i++) {
                all.append(i == 0 ? "" : " ").append(x.traceAt(i));
            }
            return all.toString();
        }

        String outputs() {
            StringBuilder all = new StringBuilder();
            for (int i = 0; i < x.outputs(); i++) {
                all.append(i == 0 ? "" : " ").append(x.output(i));
            }
            return all.toString();
        }
    }

    /**
     * What a body without parameters comes to: as a constant, in a build and a run, plainly, on fresh benches. Its fault
     * is that of the build, if no variable keeps it from being known.
     */
    static void comes(String body, String want) {
        boolean fault = want.length() == 1;
        boolean inRun = body.contains("v");
        told(body + " as a constant", new Desk().kept(body), want);
        told(body + " built and run", new Desk().built(body, 0, 0), fault && !inRun ? "!" + want : want);
        told(body + " plainly", new Desk().plain(body, 0, 0), want);
    }

    /** What a body comes to in a run, with a build or plainly, where its faults are those of the run. */
    static void runs(String body, int first, int second, String want) {
        told(body + " built and run", new Desk().built(body, first, second), want);
        told(body + " plainly", new Desk().plain(body, first, second), want);
    }

    /** What a body puts out and comes to, in a run and plainly. */
    static void puts(String body, String outputs, String want) {
        for (int turn = 0; turn < 2; turn++) {
            Desk k = new Desk();
            String how = turn == 0 ? " built and run" : " plainly";
            told(body + how, turn == 0 ? k.built(body, 0, 0) : k.plain(body, 0, 0), want);
            told(body + how + " puts out", k.outputs(), outputs);
        }
    }

    static String times(int times, String word) {
        StringBuilder all = new StringBuilder();
        for (int i = 0; i < times; i++) {
            all.append(word).append(' ');
        }
        return all.toString();
    }

    /** A body that takes just so many nodes to work out, from 9 on: 7 for each round, and as many 'T' as are left. */
    static String nodes(int count) {
        int rounds = (count - 9) / 7;
        int more = (count - 9) % 7;
        return "; s0 " + times(more / 2, "T") + "n0 ; L < v0 n" + rounds + " s0 + v0 n1 " + times(more - more / 2, "T") + "v0";
    }

    /** The same with the rounds as the first argument and 0 as the second one, so that nothing of it is known. */
    static String nodesOfRun(int count) {
        int more = (count - 9) % 7;
        return "; s0 " + times(more / 2, "T") + "p1 ; L < v0 p0 s0 + v0 n1 " + times(more - more / 2, "T") + "v0";
    }

    static int rounds(int count) {
        return (count - 9) / 7;
    }

    public static void main(String[] args) {
        whatItIs();
        values();
        nodes();
        operators();
        calls();
        known();
        builds();
        runs();
        exceptions();
        promises();
        System.out.println(wrong == 0 ? sentences + " sentences hold at their edges" : wrong + " answers are not as due");
        if (wrong != 0) {
            System.exit(1);
        }
    }

    // ---- What it is

    static void whatItIs() {
        fiveHundredCalls();
        keepsWhatItFound();
        neverReached();
        earlyOrLate();
        behindEdits();
    }

    static void fiveHundredCalls() {
        says("An object is used for at most 512 calls after it has been made");
        ComptimeBench x = new ComptimeBench();
        for (int i = 0; i < 218; i++) {
            x.node('n', i, 0, 0);
        }
        int p = x.node('p', 0, 0, 0);
        int sum = x.node('+', p, 217, 0);
        int calls = 220;
        for (; calls < 509; calls += 3) {
            due("an edit", x.function(0, 1, 0, calls % 2 == 0 ? sum : p), calls == 220 ? 0 : 1);
            due("a build", x.build(0), '-');
            due("a run", x.run(calls, 0), 'v');
        }
        due("calls by now", calls, 511);
        due("call 512", x.result(), 508 + 217);
    }

    static void keepsWhatItFound() {
        says("A build keeps what it found, and looks anew only at what hangs on an edit.");
        Desk k = new Desk();
        k.constant(5, "n1");
        k.constant(6, "n2");
        k.function(1, 0, 0, "d5");
        k.function(2, 0, 0, "d6");
        due("the first build", k.ends(0, "; c1 _ _ c2 _ _"), '-');
        due("looks at all", k.x.looked(), 5);
        due("the same again", k.x.build(0), '-');
        due("looks at nothing", k.x.looked(), 0);
        due("works nothing out", k.x.worked(), 0);
        due("an edit of what nothing looked at", k.constant(7, "n3"), 0);
        due("again", k.x.build(0), '-');
        due("looks at nothing", k.x.looked(), 0);
        due("an edit", k.constant(6, "n3"), 3);
        due("again", k.x.build(0), '-');
        due("looks at what hangs on it", k.x.looked(), 3);
        due("works it out", k.x.worked(), 1);
    }

    static void neverReached() {
        says("What is never reached is never wrong");
        String[] bodies = {"i n1 n5 d9", "i n0 d9 n5", "C n5 d9", "C n5 c9 _ _", "i n1 n5 / n1 n0", "i n0 + e1 n1 n5",
            "K i n1 n5 d9", "K C n5 / n1 n0", "K ; r n5 d9", "K ; T n5 n5", "; K L n0 d9 n5", "; K E d9 n5"};
        for (String body : bodies) {
            told(body, new Desk().built(body, 0, 0), "n5");
        }
        Desk k = new Desk();
        k.constant(5, "/ n1 n0");
        k.function(4, 0, 0, "d9");
        k.function(3, 1, 0, "n5");
        told("declarations that nothing reaches", k.built("n5", 0, 0), "n5");
        told("an argument too many", k.built("c3 p0 d9", 0, 0), "n5");
        told("in a run", k.plain("; r n5 d9", 0, 0), "n5");
        told("in a run", k.plain("i p0 d9 n5", 0, 0), "n5");
        told("but where a run may come", k.built("i p0 d9 n5", 0, 0), "!d");
        told("what is behind 'r' in a function is looked at", k.built("; r n5 d9", 0, 0), "!d");
    }

    static void earlyOrLate() {
        says("what is known worked out early or late gives the same");
        for (int early = 0; early < 4; early++) {
            Desk k = new Desk();
            k.constant(5, "; s0 n3 + v0 n4");
            k.constant(6, "+ d5 c1 n2 _");
            k.function(1, 1, 0, "* p0 d5");
            k.function(2, 0, 0, early == 1 ? "d5" : early == 2 ? "d6" : "K c1 n2 _");
            if (early > 0) {
                due("early", k.x.build(2), '-');
            }
            told("late", k.built("+ p0 + d6 K c1 n2 _", 1, 0), "w36");
            told("late", k.built("; + d6 K c1 n2 _ d6", 1, 0), "n21");
            due("constants", k.x.constants(), 2);
            due("calls", k.x.calls(), 1);
            due("whole", k.x.isWhole() ? 1 : 0, 1);
            told("plainly", k.plain("+ d6 K c1 n2 _", 1, 0), "n35");
        }
    }

    static void behindEdits() {
        says("a build behind edits is the one from nothing");
        Desk k = new Desk();
        k.constant(5, "n1");
        k.function(1, 1, 1, "+ p0 d5");
        told("first", k.built("c1 n2 _", 0, 0), "n3");
        k.constant(5, "n7");
        told("an edit of the constant", k.built("c1 n2 _", 0, 0), "n9");
        k.function(1, 1, 0, "* p0 d5");
        told("an edit of the function", k.built("c1 n2 _", 0, 0), "n14");
        due("function 1 once", k.x.made(), 2);
        k.x.remove(5);
        told("without the constant", k.built("c1 n2 _", 0, 0), "!d");
        k.function(5, 0, 0, "n1");
        told("with a function instead", k.built("c1 n2 _", 0, 0), "!d");
        k.constant(5, "n3");
        told("with the constant again", k.built("c1 n2 _", 0, 0), "n6");
        due("constants", k.x.constants(), 1);
        due("made", k.x.made(), 2);
        due("nodes left", k.x.nodesLeft(), 3);
    }

    // ---- Values

    static void values() {
        freeNumbers();
        wholeTypes();
        sameValues();
        sameFloats();
    }

    static void freeNumbers() {
        says("A value is a free whole number, from -1099511627776 to 1099511627776");
        comes("n2147483647", "n2147483647");
        comes("n-2147483648", "n-2147483648");
        comes("* n1048576 n1048576", "n1099511627776");
        comes("* n1048576 n-1048576", "n-1099511627776");
        comes("* n1048577 n1048576", "o");
        comes("* n-1048577 n1048576", "o");
        comes("+ N1099511627775 n1", "n1099511627776");
        comes("+ N1099511627776 n0", "n1099511627776");
        comes("+ N1099511627776 n1", "o");
        comes("+ n1 N1099511627776", "o");
        comes("- N-1099511627775 n1", "n-1099511627776");
        comes("- N-1099511627776 n1", "o");
        comes("- n0 N1099511627776", "n-1099511627776");
        comes("- n-1 N1099511627776", "o");
        comes("+ N-1099511627776 n-1", "o");
        comes("* N1099511627776 n-1", "n-1099511627776");
        comes("* N1099511627776 n2", "o");
        comes("* N549755813888 n2", "n1099511627776");
        comes("* N549755813889 n2", "o");
        comes("/ N-1099511627776 n-1", "n1099511627776");
        comes("* N1099511627776 N1099511627776", "o");
        comes("* N-1099511627776 N1099511627776", "o");
        comes("* N1099511627776 n0", "n0");
        // a product far beyond a long, which comes back to 0 or to a small number there
        comes("* N1099511627776 N16777216", "o");
        comes("* N4294967297 N4294967295", "o");
        comes("* N1099511627775 N1099511627773", "o");
        comes("k * f1048576 f1048576 free", "n1099511627776");
        comes("k * f-1048576 f1048576 free", "n-1099511627776");
        comes("k * f1048576 + f1048576 f1 free", "c");
        comes("k * f1048576 - f-1048576 f1 free", "c");
    }

    static void wholeTypes() {
        says("The types are whole ones, with 1 to 32 bits, signed or not, that have the numbers which these bits can "
                + "hold, a sign taking one of them");
        for (int bits = -32; bits <= 32; bits++) {
            if (bits == 0) {
                continue;
            }
            long most = bits > 0 ? (1L << bits) - 1 : (1L << -bits - 1) - 1;
            long least = bits > 0 ? 0 : -(1L << -bits - 1);
            String one = most < 1 ? "w-1:" + bits : "w1:" + bits;
            String up = most < 1 ? "-" : "+";
            String down = most < 1 ? "+" : "-";
            Desk k = new Desk();
            told("the greatest of " + bits, k.kept("w" + most + ":" + bits), "w" + most);
            told("the least of " + bits, k.kept("w" + least + ":" + bits), "w" + least);
            told("beyond " + bits, k.kept("w" + (most + 1) + ":" + bits), "c");
            told("below " + bits, k.kept("w" + (least - 1) + ":" + bits), "c");
            told("up to the end of " + bits, k.kept(up + " " + down + " w" + most + ":" + bits + " " + one + " " + one), "w" + most);
            told("1 more in " + bits, k.kept(up + " w" + most + ":" + bits + " " + one), "o");
            told("1 less in " + bits, k.kept(down + " w" + least + ":" + bits + " " + one), "o");
            told("its type", k.kept("y w" + most + ":" + bits), "t" + bits);
            k = new Desk();
            boolean back = most < 1;
            told("'P' of " + bits, k.kept("P w" + (back ? least : most) + ":" + bits + " " + one), "w" + (back ? most : least));
            told("'Q' of " + bits, k.kept("Q w" + (back ? least : most) + ":" + bits + " " + one), "w" + (back ? least : most));
            told("'P' within " + bits, k.kept("P w0:" + bits + " " + one), back ? "w-1" : "w1");
            told("'Q' within " + bits, k.kept("Q " + one + " w0:" + bits), back ? "w-1" : "w1");
            if (bits < 0) {
                told("'P' the other way", k.kept("P w" + least + ":" + bits + " w-1:" + bits), "w" + most);
                told("'Q' the other way", k.kept("Q w" + least + ":" + bits + " w-1:" + bits), "w" + least);
            }
        }
        says("a float; a type; an error, 0 to 9; or nothing");
        comes("f0", "f0");
        comes("F", "t99");
        comes("free", "t0");
        comes("t1", "t1");
        comes("t-1", "t-1");
        comes("t32", "t32");
        comes("t-32", "t-32");
        comes("e0", "e0");
        comes("e9", "e9");
        comes("v0", "-0");
    }

    static void sameValues() {
        says("Two values are the same if they are of the same type, and the same number, type, or error, or both nothing");
        String[] values = {"n3", "w3:8", "w3:9", "w3:-8", "f3", "n4", "w4:8", "t3", "t-3", "t4", "F", "free", "e3", "e4",
            "v0", "n0", "w0:8", "e0"};
        for (String a : values) {
            for (String b : values) {
                boolean numbers = "nwf".indexOf(a.charAt(0)) >= 0 && "nwf".indexOf(b.charAt(0)) >= 0 && !a.equals("free")
                        && !b.equals("free");
                if (!numbers) {
                    told("= " + a + " " + b, new Desk().kept("= " + a + " " + b), a.equals(b) ? "w1" : "w0");
                }
                if (!a.equals("v0") && !b.equals("v0")) {
                    Desk k = new Desk();
                    k.function(1, 1, 1, "n0");
                    due("rows " + a + " and " + b, k.ends(0, "; c1 " + a + " _ c1 " + b + " _"), '-');
                    due("made for " + a + " and " + b, k.x.made(), a.equals(b) ? 2 : 3);
                }
                Desk k = new Desk();
                k.function(1, 1, 0, "n0");
                due("calls with " + a + " and " + b, k.ends(0, "K ; c1 " + a + " _ c1 " + b + " _"), '-');
                due("kept for " + a + " and " + b, k.x.calls(), a.equals(b) ? 1 : 2);
            }
        }
    }

    static void sameFloats() {
        says("floats are the same if their bits are, where those that are not a number have one row of bits");
        String none = "/ f0 f0";
        String[] noNumbers = {none, "% f1 f0", "- / f1 f0 / f1 f0", "* / f1 f0 f0", "+ " + none + " f1", "- f0 " + none,
            "% / f1 f0 f1", "% f1 " + none, "/ / f1 f0 / f-1 f0", "* f-1 " + none, "k " + none + " F"};
        for (String no : noNumbers) {
            comes(no, "f2143289344");
            comes("x " + no, "w2143289344");
            comes("= " + no + " " + no, "w0");
            Desk k = new Desk();
            k.function(1, 1, 1, "n0");
            due("rows", k.ends(0, "; c1 " + none + " _ c1 " + no + " _"), '-');
            due("one row for all that are not a number", k.x.made(), 2);
            due("one call", k.ends(0, "K ; c1 " + none + " _ c1 " + no + " _"), '-');
            due("one call for all that are not a number", k.x.calls(), 1);
        }
        comes("= f0 * f0 f-1", "w1");
        Desk k = new Desk();
        k.function(1, 1, 1, "n0");
        due("rows", k.ends(0, "; c1 f0 _ ; c1 * f0 f-1 _ c1 f0 _"), '-');
        due("0 and -0 have two rows of bits", k.x.made(), 3);
    }

    // ---- Nodes

    static void nodes() {
        mostNodes();
        mostDepth();
        parameters();
        variables();
        declarationNumbers();
        arguments();
        argumentsThatAreLeft();
        noSuchParts();
        numbersOfNoMeaning();
        noSuchKind();
        kindsOfNodes();
        partsInOrder();
    }

    static void mostNodes() {
        says("At most 220 nodes are numbered from 0");
        for (char kind : "nepvdcF".toCharArray()) {
            ComptimeBench x = new ComptimeBench();
            for (int i = 0; i < 220; i++) {
                due("node", x.node(kind, 0, -1, -1), i);
            }
            refused("node 220", STATE, () -> x.node(kind, 0, -1, -1));
            refused("again", STATE, () -> x.node('+', 0, 219, 0));
            refused("a part that is node 220", ILLEGAL, () -> x.node('+', 0, 220, 0));
            due("the last one", x.constant(0, 219), 0);
        }
    }

    static void mostDepth() {
        says("the depth of a node is 1, or 1 more than the greatest one of its parts, and at most 10");
        for (char kind : "+-*/%<=PQikyzxKTC;LrDEo".toCharArray()) {
            deepest(kind, 'a');
        }
        for (char kind : "+-*/%<=PQiktC;sLc".toCharArray()) {
            deepest(kind, 'b');
        }
        for (char kind : "ic".toCharArray()) {
            deepest(kind, 'c');
        }
        ComptimeBench x = new ComptimeBench();
        for (int i = 0; i < 10; i++) {
            x.node(i == 0 ? 'n' : 'r', Math.max(0, i - 1), 0, 0);
        }
        String all = "nepvdFyzxKTrDEots+-*/%<=PQkC;L";
        for (int i = 0; i < all.length(); i++) {
            int b = i < all.indexOf('t') ? 9 : 0;
            due("deep numbers that " + all.charAt(i) + " does not have", x.node(all.charAt(i), 0, b, 9), 10 + i);
        }
    }

    /** A node whose part a, b or c has depth 9, or 10; its other numbers are fit for all kinds. */
    static void deepest(char kind, char place) {
        ComptimeBench x = new ComptimeBench();
        for (int i = 0; i < 10; i++) {
            x.node(i == 0 ? 'n' : 'r', Math.max(0, i - 1), 0, 0);
        }
        String what = kind + " with a deep part " + place;
        for (int part = 8; part < 10; part++) {
            int a = place == 'a' ? part : 0;
            int b = place == 'b' ? part : 0;
            int c = place == 'c' ? part : 0;
            if (part == 8) {
                due(what, x.node(kind, a, b, c), 10);
                refused("one on " + what, STATE, () -> x.node('o', 10, 0, 0));
            } else {
                refused(what, STATE, () -> x.node(kind, a, b, c));
            }
        }
        due("nothing was added", x.node('n', 0, 0, 0), 11);
    }

    static void parameters() {
        says("'p' the parameter a, 0 or 1, which is nothing if there is no such one");
        ComptimeBench x = new ComptimeBench();
        for (int a : new int[] {-1, 2, Integer.MIN_VALUE, Integer.MAX_VALUE}) {
            refused("p " + a, ILLEGAL, () -> x.node('p', a, 0, 0));
        }
        due("p 0", x.node('p', 0, 0, 0), 0);
        due("p 1", x.node('p', 1, 0, 0), 1);
        for (int parameters = 0; parameters <= 2; parameters++) {
            for (int p = 0; p < 2; p++) {
                Desk k = new Desk();
                String want = p < parameters ? "w" + (7 + p) : "-0";
                due("build", k.ends(parameters, "p" + p), '-');
                due("known if it is not there", k.x.nodesLeft(), p < parameters ? 1 : 0);
                due("run", k.x.run(7, 8), 'v');
                told("p" + p + " of " + parameters, k.value(), want);
                due("plain", k.x.plain(0, 7, 8), 'v');
                told("plainly", k.value(), want);
                k.function(1, 0, 0, "K c0 w7:8 w8:8");
                due("build", k.x.build(1), '-');
                due("run", k.x.run(0, 0), 'v');
                told("of a call", k.value(), want);
                told("of a constant", k.kept("p" + p), "-0");
            }
        }
    }

    static void variables() {
        says("'v' the variable a, 0 to 3, of the call, nothing at first");
        ComptimeBench x = new ComptimeBench();
        x.node('n', 0, 0, 0);
        for (int a : new int[] {-1, 4, Integer.MIN_VALUE, Integer.MAX_VALUE}) {
            refused("v " + a, ILLEGAL, () -> x.node('v', a, 0, 0));
            refused("s " + a, ILLEGAL, () -> x.node('s', a, 0, 0));
        }
        due("nothing was added", x.node('v', 3, 0, 0), 1);
        for (int v = 0; v < 4; v++) {
            runs("v" + v, 0, 0, "-0");
            runs("; s" + v + " n5 v" + v, 0, 0, "n5");
            for (int other = 0; other < 4; other++) {
                if (other != v) {
                    runs("; s" + v + " n5 v" + other, 0, 0, "-0");
                }
            }
        }
        runs("; s0 n1 ; s1 n2 ; s2 n3 ; s3 n4 + + v0 * n10 v1 * n100 + v2 * n10 v3", 0, 0, "n4321");
        runs("; s2 n1 ; s2 e7 v2", 0, 0, "e7");
        // a call, 'K' and a constant have variables of their own, and leave those of what needs them
        Desk k = new Desk();
        k.function(1, 0, 0, "; s0 n9 v1");
        told("of a call", k.built("; s1 n5 ; c1 _ _ v0", 0, 0), "-0");
        told("of a call", k.plain("; s1 n5 ; c1 _ _ v0", 0, 0), "-0");
        told("of a call", k.plain("; s1 n5 ; c1 _ _ v1", 0, 0), "n5");
        told("in a call", k.plain("; s1 n5 c1 _ _", 0, 0), "-0");
        k.constant(5, "; s0 n9 v1");
        told("in a constant", k.plain("; s1 n5 d5", 0, 0), "-0");
        told("of a constant", k.plain("; s0 n5 ; d5 v0", 0, 0), "n5");
        told("in 'K'", k.plain("; s1 n5 K ; s0 n9 v1", 0, 0), "-0");
        told("of 'K'", k.plain("; s0 n5 ; K s0 n9 v0", 0, 0), "n5");
        told("in 'K' of a build", k.built("K ; s1 n5 K v1", 0, 0), "-0");
        told("a second call begins anew", k.plain("; K s0 n9 K v0", 0, 0), "-0");
        told("a second run begins anew", k.plain("; s0 i = v0 v1 n1 n2 v0", 0, 0), "n1");
        told("a second run begins anew", k.plain("; s0 i = v0 v1 n1 n2 v0", 0, 0), "n1");
    }

    static void declarationNumbers() {
        says("a number that it has is out of range, where declarations are from 0 to 9 and errors, too");
        ComptimeBench x = new ComptimeBench();
        for (char kind : "edc".toCharArray()) {
            for (int a : NO_DECLARATION) {
                refused(kind + " " + a, ILLEGAL, () -> x.node(kind, a, -1, -1));
            }
        }
        int node = 0;
        for (char kind : "edc".toCharArray()) {
            for (int a = 0; a < 10; a++) {
                due(kind + " " + a, x.node(kind, a, -1, -1), node++);
            }
        }
        for (int d = 0; d < 10; d++) {
            due("constant " + d, x.constant(d, d), 0);
            due("function", x.function((d + 1) % 10, 0, 0, 10 + d), 0);
            due("build", x.build((d + 1) % 10), '-');
            due("'d' is of this declaration", x.numberOf(d), d);
            x.function(d, 0, 0, d);
            x.function((d + 1) % 10, 0, 0, 20 + d);
            due("build", x.build((d + 1) % 10), '-');
            due("run", x.run(0, 0), 'v');
            due("'c' is of this declaration", x.result(), d);
            x.remove(d);
        }
    }

    static void arguments() {
        says("with the part b as its first and c as its second argument, as many as it has parameters, others left out, "
                + "where nothing stands for a part that is not there");
        for (int parameters = 0; parameters <= 2; parameters++) {
            for (int there = 0; there < 4; there++) {
                String first = (there & 1) != 0 ? "n7" : "_";
                String second = (there & 2) != 0 ? "n8" : "_";
                boolean hasFirst = parameters > 0 && (there & 1) != 0;
                boolean hasSecond = parameters > 1 && (there & 2) != 0;
                for (int p = 0; p < 2; p++) {
                    String want = p == 0 ? hasFirst ? "n7" : "-0" : hasSecond ? "n8" : "-0";
                    for (int known = 0; known < 1 << parameters; known++) {
                        Desk k = new Desk();
                        k.function(1, parameters, known, "p" + p);
                        String call = "c1 " + first + " " + second;
                        told(call + " of " + parameters, k.built(call, 0, 0), want);
                        int steps = 2 + (hasFirst ? 1 : 0) + (hasSecond ? 1 : 0);
                        due("an argument that is not there is no node", k.x.steps(), steps);
                        boolean knownPart = p >= parameters || (known >> p & 1) == 1;
                        due("nodes left", k.x.nodesLeft(), knownPart ? 1 : 2);
                        told(call + " plainly", k.plain(call, 0, 0), want);
                        due("steps", k.x.steps(), steps);
                        told(call + " in 'K'", k.built("K " + call, 0, 0), want);
                        due("worked", k.x.worked(), steps);
                    }
                }
            }
        }
    }

    static void argumentsThatAreLeft() {
        for (String[] row : new String[][] {{"c1 _ p0", "2"}, {"c1 p0 _", "2"}, {"c1 p0 p0", "3"}, {"c1 _ _", "1"}, {"c1 + p0 p0 _", "4"},
            {"c1 _ + p0 p0", "4"}, {"c1 n1 p0", "2"}, {"c1 p0 n1", "2"}}) {
            Desk k = new Desk();
            k.function(1, 2, 0, "n1");
            due(row[0], k.ends(1, row[0]), '-');
            due(row[0] + " leaves", k.x.nodesLeft(), Integer.parseInt(row[1]));
        }
    }

    static void noSuchParts() {
        says("a part is no such node, where -1 is told for the arguments of a call that are not there");
        ComptimeBench x = new ComptimeBench();
        x.node('n', 0, 0, 0);
        for (int no : new int[] {-2, 1, 220, Integer.MIN_VALUE, Integer.MAX_VALUE}) {
            refused("first argument " + no, ILLEGAL, () -> x.node('c', 0, no, 0));
            refused("second argument " + no, ILLEGAL, () -> x.node('c', 0, 0, no));
        }
        for (char kind : "+-*/%<=PQikyzxKTC;LrDEo".toCharArray()) {
            for (int no : new int[] {-1, 1, 220, Integer.MIN_VALUE, Integer.MAX_VALUE}) {
                refused(kind + " with a " + no, ILLEGAL, () -> x.node(kind, no, 0, 0));
            }
        }
        for (char kind : "+-*/%<=PQiktC;sL".toCharArray()) {
            for (int no : new int[] {-1, 1, 220, Integer.MIN_VALUE, Integer.MAX_VALUE}) {
                refused(kind + " with b " + no, ILLEGAL, () -> x.node(kind, 0, no, 0));
            }
        }
        for (int no : new int[] {-1, 1, 220, Integer.MIN_VALUE, Integer.MAX_VALUE}) {
            refused("i with c " + no, ILLEGAL, () -> x.node('i', 0, 0, no));
        }
        due("nothing was added", x.node('c', 0, -1, -1), 1);
        due("a part may be the latest node", x.node('c', 0, 1, 1), 2);
        due("both parts", x.node('+', 2, 2, 0), 3);
    }

    static void numbersOfNoMeaning() {
        says("numbers that a kind does not have are of no meaning");
        ComptimeBench x = new ComptimeBench();
        int node = x.node('n', 0, 0, 0) + 1;
        for (char kind : "nepvdF".toCharArray()) {
            due("leaf " + kind, x.node(kind, 0, -7, 999), node++);
        }
        due("F", x.node('F', -7, -7, 999), node++);
        for (char kind : "yzxKTrDEo".toCharArray()) {
            due("with part a " + kind, x.node(kind, 0, -7, 999), node++);
        }
        for (char kind : "+-*/%<=PQkC;Lts".toCharArray()) {
            due("with parts a and b " + kind, x.node(kind, 0, 0, kind == '+' ? 999 : -7), node++);
        }
        for (char kind : "nepvdFyzxKTrDEo+-*/%<=PQkC;Lts".toCharArray()) {
            // a division by 0 stands where the kind has no number
            ComptimeBench with = new ComptimeBench();
            int bad = with.node('/', with.node('n', 1, 0, 0), with.node('n', 0, 0, 0), 0);
            int part = with.node(kind == 'x' ? 'k' : kind == 'z' ? 'F' : 'n', 0, with.node('F', 0, 0, 0), 0);
            int eight = with.node('n', 8, 0, 0);
            int a = "nepvdts".indexOf(kind) >= 0 ? 0 : kind == 'F' ? bad : part;
            int b = "nepvdFyzxKTrDEo".indexOf(kind) >= 0 ? bad : kind == 'k' ? 3 : eight;
            int body = with.node(kind, a, b, bad);
            with.constant(0, part);
            with.function(1, 1, 0, body);
            char end = "/%".indexOf(kind) >= 0 || "PQ".indexOf(kind) < 0 ? '-' : 't';
            due("build with numbers that " + kind + " does not have", with.build(1), end);
            due("plain with them", with.plain(1, 0, 0), end == '-' ? 'v' : 't');
        }
    }

    static void noSuchKind() {
        says("there is no such kind");
        ComptimeBench x = new ComptimeBench();
        x.node('n', 0, 0, 0);
        int node = 1;
        for (int kind = 0; kind < 65536; kind += kind < 300 ? 1 : 97) {
            char at = (char) kind;
            if ("nepvdc+-*/%<=PQiktFyzxKTC;sLrDEo".indexOf(at) >= 0) {
                due("kind " + at, x.node(at, 0, 0, 0), node++);
            } else {
                refused("kind " + kind, ILLEGAL, () -> x.node(at, 0, 0, 0));
            }
        }
        due("all kinds", node, 33);
    }

    static void kindsOfNodes() {
        says("'t' the type with as many bits as the part b gives, signed if a is 1, and not if it is 0");
        ComptimeBench x = new ComptimeBench();
        x.node('n', 0, 0, 0);
        refused("t 2", ILLEGAL, () -> x.node('t', 2, 0, 0));
        refused("t -1", ILLEGAL, () -> x.node('t', -1, 0, 0));
        comes("t+ n8", "t8");
        comes("t- n8", "t-8");
        says("'i' the part b if a is true, and otherwise c");
        comes("i n1 n2 n3", "n2");
        comes("i n0 n2 n3", "n3");
        runs("i p0 n2 n3", 1, 0, "n2");
        runs("i p0 n2 n3", -1, 0, "n2");
        runs("i p0 n2 n3", 0, 0, "n3");
        says("'L' does the part b as long as a is true, and is nothing");
        puts("; s0 n0 L < v0 n3 ; o v0 s0 + v0 n1", "0 1 2", "-0");
        puts("L n0 o n1", "", "-0");
        says("'T' tries the part a: if it is an error, the call is left with this");
        puts("; T n1 ; o n2 n3", "2", "n3");
        puts("; T e1 ; o n2 n3", "", "e1");
        runs("+ T n1 n2", 0, 0, "n3");
        says("'C' the part a, or the part b if this is an error");
        puts("; C n1 o n2 n3", "", "n3");
        puts("; C e1 o n2 n3", "2", "n3");
        runs("C e1 e2", 0, 0, "e2");
        runs("C v0 n2", 0, 0, "-0");
        says("'s' gives the value of the part b to the variable a, and is nothing");
        runs("s0 n1", 0, 0, "-0");
        says("'r' leaves the call with the part a");
        puts("; r n1 ; o n2 n3", "", "n1");
        says("'D' puts the part a off until the call is left, 'E' until it is left with an error; both are nothing");
        puts("D n1", "", "-0");
        puts("E n1", "", "-0");
        puts("; D o n1 ; o n2 n3", "2 1", "n3");
        puts("; E o n1 ; o n2 n3", "2", "n3");
        puts("; E o n1 ; o n2 e3", "2 1", "e3");
        puts("; E o n1 ; o n2 T e3", "2 1", "e3");
        puts("; E o n1 ; o n2 r e3", "2 1", "e3");
        says("'o' puts the part a out, and is nothing");
        puts("o n1", "1", "-0");
        puts("; o n1 n2", "1", "n2");
        says("';' the part a, then b, whose value it has");
        puts("; o n1 ; o n2 n3", "1 2", "n3");
        says("'z' how many bits the type has that the part a gives, as a free number");
        comes("y z t8", "t0");
        says("'x' the bits of the float that the part a gives, as a signed number of 32 bits");
        comes("y x f1", "t-32");
    }

    static void partsInOrder() {
        says("Parts are worked out from the first one on.");
        for (String kind : "+ - * / % < = P Q k L s0".split(" ")) {
            // the first part is the fault 'z', the second one 'c'
            String both = kind.equals("s0") ? "s0 ; / n1 n0 w9:1" : kind + " / n1 n0 w9:1";
            comes(both, "z");
            comes(both.replace("/ n1 n0", "w9:2").replace("w9:1", "/ n1 n0"), "c");
            if (kind.length() == 1 && !kind.equals("L")) {
                puts(kind + " ; o n1 w1:8 ; o n2 " + (kind.equals("k") ? "t8" : "w1:8"), "1 2",
                        kind.equals("+") || kind.equals("P") || kind.equals("Q") ? "w2" : kind.equals("-") || kind.equals("%")
                                || kind.equals("<") ? "w0" : "w1");
            }
        }
        puts("; i ; o n1 n1 o n2 o n3 n4", "1 2", "n4");
        puts("; i ; o n1 n0 o n2 o n3 n4", "1 3", "n4");
        Desk k = new Desk();
        k.function(1, 2, 0, "; o n3 + p0 p1");
        k.function(2, 2, 0, "c1 ; o n1 n7 ; o n2 n8");
        due("arguments ahead of the body", k.x.plain(2, 0, 0), 'v');
        told("put out", k.outputs(), "1 2 3");
        told("the first argument's fault", k.built("c1 / n1 n0 w9:1", 0, 0), "!z");
        told("the other way round", k.built("c1 w9:1 / n1 n0", 0, 0), "!c");
        told("looked at in this order, too", k.built("i p0 / n1 n0 w9:1", 0, 0), "!z");
        told("the other way round", k.built("i p0 w9:1 / n1 n0", 0, 0), "!c");
        told("the condition ahead", k.built("i / p0 - n1 n1 w9:1 n1", 0, 0), "!c");
    }

    // ---- Operators

    static final String[] OPERATORS = {"+", "-", "*", "/", "%", "<", "=", "P", "Q"};

    static void operators() {
        freeBecomes();
        unlike();
        wholeArithmetic();
        byNothing();
        roundAndUpTo();
        floatsAsJava();
        comparisons();
        conditions();
        conversions();
        fromFloats();
        toFloats();
        typesOfBits();
        measures();
    }

    static void freeBecomes() {
        says("Of two numbers, if one is free and the other one of a type, that of floats, too, the free one becomes one of "
                + "this type, as 'k' does it");
        for (String o : OPERATORS) {
            for (int bits : new int[] {1, 8, -8, 32, -32}) {
                long most = bits > 0 ? (1L << bits) - 1 : (1L << -bits - 1) - 1;
                long least = bits > 0 ? 0 : -(1L << -bits - 1);
                String zero = "w0:" + bits;
                String end = "N" + most;
                comes(o + " " + zero + " N" + (most + 1), "c");
                comes(o + " N" + (most + 1) + " " + zero, "c");
                comes(o + " " + zero + " N" + (least - 1), "c");
                comes(o + " N" + (least - 1) + " " + zero, "c");
                told(o + " up to the end", new Desk().kept(o + " " + zero + " " + end),
                        new Desk().kept(o + " " + zero + " w" + most + ":" + bits));
                told(o + " up to the end", new Desk().kept(o + " " + end + " " + zero),
                        new Desk().kept(o + " w" + most + ":" + bits + " " + zero));
            }
            boolean add = o.equals("P") || o.equals("Q");
            comes(o + " n16777217 f1", "c");
            comes(o + " f1 n16777217", "c");
            comes(o + " n-16777217 f1", "c");
            comes(o + " f1 N1099511627775", "c");
            told(o + " of a float and a free number", new Desk().kept(o + " f1 n16777216"),
                    add ? "t" : new Desk().kept(o + " f1 f16777216"));
            told(o + " of a free number and a float", new Desk().kept(o + " N1099511627776 f1"),
                    add ? "t" : new Desk().kept(o + " f1099511627776 f1"));
        }
        comes("y + w1:8 n1", "t8");
        comes("y + n1 w1:-8", "t-8");
        comes("y + n1 f1", "t99");
        comes("y + n1 n1", "t0");
        runs("+ p0 N2147483647", 0, 0, "w2147483647");
        runs("+ p0 N2147483648", 0, 0, "c");
        runs("+ p0 N-2147483648", 0, 0, "w-2147483648");
        runs("+ p0 N-2147483649", 0, 0, "c");
    }

    static void unlike() {
        says("two numbers of unlike types, or something else than numbers and floats, are the fault 't'");
        for (String o : OPERATORS) {
            comes(o + " w1:8 w1:9", "t");
            comes(o + " w1:8 w1:-8", "t");
            comes(o + " w1:31 w1:32", "t");
            comes(o + " w1:8 f1", "t");
            comes(o + " f1 w1:-32", "t");
            for (String other : new String[] {"e1", "v0", "F", "t8", "free"}) {
                if (!o.equals("=")) {
                    for (String number : new String[] {"n1", "w1:8", "f1", other, "e1", "t8"}) {
                        comes(o + " " + number + " " + other, "t");
                        comes(o + " " + other + " " + number, "t");
                    }
                }
            }
        }
        says("but '=' of two values of which one at least is neither tells whether they are the same");
        comes("= e1 n1", "w0");
        comes("= n1 e1", "w0");
        comes("= v0 w0:8", "w0");
        comes("= f1 F", "w0");
        comes("= v0 v1", "w1");
        comes("= e9 e9", "w1");
        comes("= e9 e8", "w0");
        comes("= t8 t8", "w1");
        comes("= t8 t-8", "w0");
        comes("= t32 F", "w0");
        comes("= F F", "w1");
        comes("= free free", "w1");
        comes("= t8 n8", "w0");
        comes("= e0 v0", "w0");
        comes("y = e1 e1", "t1");
    }

    static void wholeArithmetic() {
        says("'+', '-', '*' and '/' give one of this type, '/' and '%' cut towards 0");
        for (String o : new String[] {"+", "-", "*", "/", "%"}) {
            comes("y " + o + " w1:8 w1:8", "t8");
            comes("y " + o + " w1:-8 w1:-8", "t-8");
            comes("y " + o + " f1 f1", "t99");
            comes("y " + o + " n1 n1", "t0");
        }
        int[][] rows = {{7, 2, 3, 1}, {-7, 2, -3, -1}, {7, -2, -3, 1}, {-7, -2, 3, -1}, {1, 2, 0, 1}, {-1, 2, 0, -1}, {0, 5, 0, 0},
            {6, 3, 2, 0}, {-6, 3, -2, 0}, {-128, 127, -1, -1}, {127, -128, 0, 127}};
        for (int[] row : rows) {
            comes("/ n" + row[0] + " n" + row[1], "n" + row[2]);
            comes("% n" + row[0] + " n" + row[1], "n" + row[3]);
            comes("/ w" + row[0] + ":-8 w" + row[1] + ":-8", "w" + row[2]);
            comes("% w" + row[0] + ":-8 w" + row[1] + ":-8", "w" + row[3]);
        }
        comes("/ w4294967295:32 w2:32", "w2147483647");
        comes("% w4294967295:32 w2:32", "w1");
        says("a number that the type has not is the fault 'o'");
        comes("+ w200:8 w55:8", "w255");
        comes("+ w200:8 w56:8", "o");
        comes("- w200:8 w200:8", "w0");
        comes("- w200:8 w201:8", "o");
        comes("- w-100:-8 w28:-8", "w-128");
        comes("- w-100:-8 w29:-8", "o");
        comes("* w51:8 w5:8", "w255");
        comes("* w64:8 w4:8", "o");
        comes("* w-64:-8 w2:-8", "w-128");
        comes("* w64:-8 w2:-8", "o");
        comes("* w-43:-8 w3:-8", "o");
        comes("* w65535:32 w65537:32", "w4294967295");
        comes("* w65536:32 w65536:32", "o");
        comes("* w4294967295:32 w4294967295:32", "o");
        comes("/ w-127:-8 w-1:-8", "w127");
        comes("/ w-128:-8 w-1:-8", "o");
        comes("/ w-1:-1 w-1:-1", "o");
        comes("/ w-2147483648:-32 w-1:-32", "o");
        comes("% w-128:-8 w-1:-8", "w0");
        comes("% w-2147483648:-32 w-1:-32", "w0");
        runs("+ p0 p1", 2147483646, 1, "w2147483647");
        runs("+ p0 p1", 2147483647, 1, "o");
        runs("- p0 p1", -2147483647, 1, "w-2147483648");
        runs("- p0 p1", -2147483648, 1, "o");
        runs("* p0 p1", 65536, 32767, "w2147418112");
        runs("* p0 p1", 65536, 32768, "o");
        runs("* p0 p1", -65536, 32768, "w-2147483648");
    }

    static void byNothing() {
        says("by 0 they are the fault 'z', but not of floats");
        for (String o : new String[] {"/", "%"}) {
            comes(o + " n1 n0", "z");
            comes(o + " n0 n0", "z");
            comes(o + " w1:8 w0:8", "z");
            comes(o + " w0:-1 w0:-1", "z");
            comes(o + " w1:8 n0", "z");
            comes(o + " n1 w0:8", "z");
            comes(o + " n256 w0:8", "c");
            comes(o + " w0:8 w1:8", "w0");
            comes(o + " w1:8 v0", "t");
            runs(o + " p0 p1", 1, 0, "z");
            runs(o + " p0 p1", 0, 1, "w0");
        }
        comes("/ f1 f0", "f2139095040");
        comes("/ f-1 f0", "f-8388608");
        comes("/ f1 n0", "f2139095040");
        comes("/ f0 f0", "f2143289344");
        comes("% f1 f0", "f2143289344");
        comes("% f0 n0", "f2143289344");
    }

    static void roundAndUpTo() {
        says("'P' and 'Q' add, 'P' round the numbers of a whole type, 'Q' up to its ends; of others they are the fault 't'");
        comes("P w200:8 w55:8", "w255");
        comes("P w200:8 w56:8", "w0");
        comes("Q w200:8 w55:8", "w255");
        comes("Q w200:8 w56:8", "w255");
        comes("P w255:8 w255:8", "w254");
        comes("P w100:-8 w27:-8", "w127");
        comes("P w100:-8 w28:-8", "w-128");
        comes("Q w100:-8 w28:-8", "w127");
        comes("P w-100:-8 w-28:-8", "w-128");
        comes("P w-100:-8 w-29:-8", "w127");
        comes("Q w-100:-8 w-28:-8", "w-128");
        comes("Q w-100:-8 w-29:-8", "w-128");
        comes("P w-128:-8 w-128:-8", "w0");
        comes("P w4294967295:32 w1:32", "w0");
        comes("Q w4294967295:32 w4294967295:32", "w4294967295");
        comes("P w-2147483648:-32 w-2147483648:-32", "w0");
        comes("P w5:8 n250", "w255");
        comes("P n6 w250:8", "w0");
        comes("y P w5:8 n250", "t8");
        comes("y Q w5:-8 w5:-8", "t-8");
        runs("P p0 p1", 2147483647, 1, "w-2147483648");
        runs("Q p0 p1", 2147483647, 1, "w2147483647");
        runs("Q p0 p1", -2147483648, -1, "w-2147483648");
        for (String o : new String[] {"P", "Q"}) {
            comes(o + " n1 n1", "t");
            comes(o + " f1 f1", "t");
            comes(o + " f1 n1", "t");
            comes(o + " e1 n1", "t");
            comes(o + " w1:8 v0", "t");
        }
    }

    static void floatsAsJava() {
        says("Of floats, '+', '-', '*', '/' and '%' are done as Java does them.");
        String[] texts = {"f0", "* f0 f-1", "f1", "f-1", "f3", "f-7", "f16777215", "f1099511627776", "/ f1 f3", "/ f-1 f0", "/ f1 f0",
            "/ f0 f0", "/ f7 f1099511627776"};
        // ends of floats: the greatest one, those without a leading bit, halves between two
        comes("- * f16777215 " + power(104) + " * f16777215 " + power(104), "f0");
        comes("* f16777215 " + power(104), "f" + Float.floatToIntBits(Float.MAX_VALUE));
        comes("* f16777216 " + power(104), "f2139095040");
        comes("* f-16777216 " + power(104), "f-8388608");
        comes("+ * f16777215 " + power(104) + " " + power(102), "f" + Float.floatToIntBits(Float.MAX_VALUE));
        comes("+ * f16777215 " + power(104) + " " + power(103), "f2139095040");
        comes("/ / f1 " + power(100) + " " + power(47), "f4");
        comes("/ / f1 " + power(100) + " " + power(49), "f1");
        comes("/ / f1 " + power(100) + " " + power(50), "f0");
        comes("/ / f-1 " + power(100) + " " + power(50), "f-2147483648");
        comes("/ / f3 " + power(100) + " " + power(50), "f2");
        comes("/ / f8388608 " + power(100) + " " + power(49), "f8388608");
        comes("/ / f8388607 " + power(100) + " " + power(49), "f8388607");
        comes("- / / f8388608 " + power(100) + " " + power(49) + " / / f1 " + power(100) + " " + power(49), "f8388607");
        comes("+ f16777216 f1", "f" + Float.floatToIntBits(16777216f));
        comes("+ f16777218 f1", "f" + Float.floatToIntBits(16777220f));
        comes("+ f16777216 f3", "f" + Float.floatToIntBits(16777220f));
        comes("* f16777215 f3", "f" + Float.floatToIntBits(16777215f * 3f));
        comes("/ f1 f10", "f" + Float.floatToIntBits(1f / 10f));
        comes("% f16777215 / f1 f3", "f" + Float.floatToIntBits(16777215f % (1f / 3f)));
        float[] floats = {0f, -0f, 1f, -1f, 3f, -7f, 16777215f, 1099511627776f, 1f / 3f, Float.NEGATIVE_INFINITY,
            Float.POSITIVE_INFINITY, Float.NaN, 7f / 1099511627776f};
        for (int i = 0; i < texts.length; i++) {
            Desk k = new Desk();
            for (int j = 0; j < texts.length; j++) {
                float a = floats[i];
                float b = floats[j];
                float[] want = {a + b, a - b, a * b, a / b, a % b};
                for (int o = 0; o < 5; o++) {
                    String sum = "+-*/%".charAt(o) + " " + texts[i] + " " + texts[j];
                    told(sum, k.kept(sum), "f" + Float.floatToIntBits(want[o]));
                }
                if (j % 3 == 2) {
                    k = new Desk();
                }
            }
        }
    }

    /** The float 2 to this power, from 30 to 120, by squares. */
    static String power(int of) {
        return of <= 30 ? "f" + (1L << of) : "* " + power(of / 2) + " " + power(of - of / 2);
    }

    static void comparisons() {
        says("'<' and '=' give 1 or 0 as a number of 1 bit without a sign");
        for (String type : new String[] {":8", ":-8", ":32", ":-32"}) {
            comes("< w1" + type + " w2" + type, "w1");
            comes("< w2" + type + " w2" + type, "w0");
            comes("< w3" + type + " w2" + type, "w0");
            comes("= w2" + type + " w2" + type, "w1");
            comes("= w3" + type + " w2" + type, "w0");
        }
        comes("< w-1:-8 w0:-8", "w1");
        comes("< n-1 n0", "w1");
        comes("< N1099511627775 N1099511627776", "w1");
        comes("= N1099511627776 N1099511627776", "w1");
        comes("= N1099511627775 N1099511627776", "w0");
        comes("< w2147483648:32 w2147483647:32", "w0");
        comes("y < n1 n2", "t1");
        comes("y = n1 n2", "t1");
        comes("y < f1 f2", "t1");
        comes("y = e1 f2", "t1");
        says("'=' of two numbers compares what they are, and of floats as Java does");
        comes("= n3 w3:8", "w1");
        comes("= w3:8 n4", "w0");
        comes("= n3 f3", "w1");
        comes("= f0 * f-1 f0", "w1");
        comes("= / f0 f0 / f0 f0", "w0");
        comes("= / f1 f0 / f1 f0", "w1");
        comes("= / f1 f0 / f-1 f0", "w0");
        comes("< * f-1 f0 f0", "w0");
        comes("< f-1 f0", "w1");
        comes("< f1 / f1 f0", "w1");
        comes("< / f-1 f0 f-1", "w1");
        comes("< / f0 f0 f1", "w0");
        comes("< f1 / f0 f0", "w0");
        comes("< f-2 f-1", "w1");
        comes("< f-1 f-2", "w0");
    }

    static void conditions() {
        says("A condition must be a whole number of a type, or a free one, and is true if it is not 0; otherwise it is the "
                + "fault 't'.");
        String[] truths = {"n1", "n-1", "N1099511627776", "w1:1", "w-1:-1", "w128:8", "w-128:-8", "w4294967295:32", "< n1 n2"};
        String[] lies = {"n0", "w0:1", "w0:-1", "w0:32", "= n1 n2", "- n1 n1"};
        String[] faults = {"f0", "f1", "/ f0 f0", "F", "t8", "free", "e0", "e1", "v0"};
        for (String truth : truths) {
            comes("i " + truth + " n5 n6", "n5");
            comes("L " + truth + " r n5", "n5");
        }
        for (String lie : lies) {
            comes("i " + lie + " n5 n6", "n6");
            comes("L " + lie + " r n5", "-0");
        }
        for (String no : faults) {
            told("i", new Desk().kept("i " + no + " n5 n6"), "t");
            told("L", new Desk().kept("L " + no + " n5"), "t");
            told("i in a run", new Desk().plain("i " + no + " n5 n6", 0, 0), "t");
            told("L in a run", new Desk().plain("L " + no + " n5", 0, 0), "t");
            told("i of what is not known", new Desk().built("i ; p0 " + no + " n5 n6", 0, 0), "t");
            told("L, of which nothing is known", new Desk().built("L " + no + " n5", 0, 0), "t");
            if (!no.equals("v0")) {
                told("i of what is known", new Desk().built("i " + no + " n5 n6", 0, 0), "!t");
            }
        }
        runs("i p0 n5 n6", -2147483648, 0, "n5");
        runs("i p0 n5 n6", 0, 1, "n6");
    }

    static void conversions() {
        says("'k': a whole or free number becomes one of a whole or free type, or the fault 'c' if this has it not");
        comes("k w255:8 t-9", "w255");
        comes("k w255:8 t-8", "c");
        comes("k w-1:-8 t32", "c");
        comes("k w0:-8 t32", "w0");
        comes("k w4294967295:32 free", "n4294967295");
        comes("k N1099511627776 free", "n1099511627776");
        comes("k N4294967295 t32", "w4294967295");
        comes("k N4294967296 t32", "c");
        comes("k N1099511627776 t32", "c");
    }

    static void fromFloats() {
        says("a float one if it is just a whole number, cut by nothing, otherwise 'c'");
        comes("k f255 t8", "w255");
        comes("k f256 t8", "c");
        comes("k f-1 t8", "c");
        comes("k f-128 t-8", "w-128");
        comes("k f-129 t-8", "c");
        comes("k / f1 f2 t8", "c");
        comes("k / f-1 f2 t8", "c");
        comes("k / f511 f2 t8", "c");
        comes("k / f510 f2 t8", "w255");
        comes("k + f1 / f1 f8388608 free", "c");
        comes("k - f8388608 / f1 f2 free", "c");
        comes("k f8388609 free", "n8388609");
        comes("k f16777215 free", "n16777215");
        comes("k * f-1 f0 t1", "w0");
        comes("k * f-1 f0 t-1", "w0");
        comes("k / f0 f0 free", "c");
        comes("k / f1 f0 free", "c");
        comes("k / f-1 f0 free", "c");
        comes("k / f1 f1099511627776 free", "c");
        comes("k * f2147483648 f2 t32", "c");
        comes("k f4294967040 t32", "w4294967040");
        comes("k f-2147483648 t-32", "w-2147483648");
        comes("k f2147483648 t-32", "c");
    }

    static void toFloats() {
        says("a whole or free number becomes a float as Java's cast does, or 'c' if this is not the same number");
        long[] same = {0, 1, -1, 16777215, 16777216, -16777216, 16777218, 33554432, 4294967040L, 1099511627776L, -1099511627776L,
            1099511562240L};
        for (long number : same) {
            comes("k N" + number + " F", "f" + Float.floatToIntBits((float) number));
        }
        long[] unlike = {16777217, -16777217, 16777219, 33554434, 33554433, 4294967295L, 1099511627775L, -1099511627775L, 1099511562239L};
        for (long number : unlike) {
            boolean is = (long) (float) number == number;
            comes("k N" + number + " F", is ? "f" + Float.floatToIntBits((float) number) : "c");
        }
        comes("k w16777217:32 F", "c");
        comes("k w4294967295:32 F", "c");
        comes("k w255:8 F", "f" + Float.floatToIntBits(255f));
        comes("k w-128:-8 F", "f" + Float.floatToIntBits(-128f));
        says("a float stays one; otherwise the fault 't'");
        comes("k / f1 f3 F", "f" + Float.floatToIntBits(1f / 3f));
        comes("k * f-1 f0 F", "f" + Float.floatToIntBits(-0f));
        comes("k / f1 f0 F", "f2139095040");
        for (String no : new String[] {"e1", "v0", "F", "t8", "free"}) {
            for (String type : new String[] {"t8", "F", "free"}) {
                comes("k " + no + " " + type, "t");
            }
        }
        for (String no : new String[] {"n8", "w8:8", "f1", "e1", "v0"}) {
            comes("k n1 " + no, "t");
            comes("k w1:8 " + no, "t");
            comes("k f1 " + no, "t");
        }
    }

    static void typesOfBits() {
        says("'t' needs from 1 to 32, a free number or one of a whole type, otherwise it is the fault 't'.");
        for (String sign : new String[] {"t+", "t-"}) {
            String minus = sign.equals("t-") ? "-" : "";
            comes(sign + " n1", "t" + minus + "1");
            comes(sign + " n32", "t" + minus + "32");
            comes(sign + " w1:1", "t" + minus + "1");
            comes(sign + " w32:6", "t" + minus + "32");
            comes(sign + " w32:-8", "t" + minus + "32");
            for (String no : new String[] {"n0", "n33", "n-1", "n-32", "w0:1", "w33:8", "w-1:-1", "f8", "f1", "e8", "t8", "F", "free", "v0",
                "N1099511627776", "N4294967297", "n2147483647", "n-2147483648", "n99", "n256", "n264"}) {
                comes(sign + " " + no, "t");
            }
            runs("z " + sign + " p0", 32, 0, "n32");
            runs("z " + sign + " p0", 1, 0, "n1");
            runs("z " + sign + " p0", 33, 0, "t");
            runs("z " + sign + " p0", 0, 0, "t");
        }
    }

    static void measures() {
        says("'y' of what is neither a number nor a float, and 'z' and 'x' of something else, are the fault 't'");
        comes("y n1", "t0");
        comes("y w1:1", "t1");
        comes("y w-1:-1", "t-1");
        comes("y w1:32", "t32");
        comes("y f1", "t99");
        for (String no : new String[] {"e1", "v0", "F", "t8", "free"}) {
            comes("y " + no, "t");
            comes("x " + no, "t");
        }
        for (String no : new String[] {"e1", "v0", "n8", "w8:8", "f1"}) {
            comes("z " + no, "t");
        }
        comes("x n1", "t");
        comes("x w1:-32", "t");
        comes("x f0", "w0");
        comes("x * f-1 f0", "w-2147483648");
        comes("x f1", "w1065353216");
        comes("x / f-1 f0", "w-8388608");
        says("'z' of floats is 32, of free numbers 0");
        comes("z F", "n32");
        comes("z free", "n0");
        for (int bits = 1; bits <= 32; bits++) {
            comes("z t" + bits, "n" + bits);
            comes("z t-" + bits, "n" + bits);
        }
    }

    // ---- Calls

    static void calls() {
        ownCalls();
        putOff();
        within();
        withinForEver();
        noSuch();
        faultEnds();
        manyFaults();
    }

    static void ownCalls() {
        says("A call works its arguments out, and then the body of the function, whose value it has, unless it is left "
                + "earlier.");
        Desk k = new Desk();
        k.function(1, 1, 0, "; o n2 ; o p0 n7");
        k.function(2, 1, 0, "; o n2 ; r p0 o n9");
        k.function(3, 1, 0, "; o n2 ; T p0 o n9");
        String[][] rows = {{"c1 ; o n1 n5 _", "1 2 5", "n7"}, {"+ c1 ; o n1 n5 _ n1", "1 2 5", "n8"}, {"+ c2 ; o n1 n5 _ n1", "1 2", "n6"},
            {"C c3 ; o n1 e5 _ n1", "1 2", "n1"}, {"; c1 ; r n6 o n1 _ n3", "", "n6"}, {"; c1 T e6 _ n3", "", "e6"}};
        for (String[] row : rows) {
            told(row[0], k.plain(row[0], 0, 0), row[2]);
            told(row[0] + " puts out", k.outputs(), row[1]);
            told(row[0], k.built(row[0], 0, 0), row[2]);
            told(row[0] + " puts out", k.outputs(), row[1]);
        }
        says("'K', and a constant where it is worked out, are as calls of their own, 'K' with the parameters of the call in "
                + "which it is, and each with variables of its own.");
        runs("+ K r n5 n1", 0, 0, "n6");
        runs("; K T e5 n1", 0, 0, "n1");
        runs("C K T e5 n1", 0, 0, "n1");
        runs("C K e5 n1", 0, 0, "n1");
        k = new Desk();
        k.constant(5, "; r n5 n9");
        k.constant(6, "; T e5 n9");
        k.function(1, 2, 3, "K - p0 p1");
        told("a constant is left", k.built("+ d5 n1", 0, 0), "n6");
        told("a constant is left", k.plain("+ d5 n1", 0, 0), "n6");
        told("with an error", k.built("C d6 n1", 0, 0), "n1");
        told("with an error", k.plain("C d6 n1", 0, 0), "n1");
        told("the error alone", k.built("; d6 n1", 0, 0), "n1");
        told("'K' has the parameters", k.built("c1 n9 n2", 0, 0), "n7");
        told("'K' has the parameters", k.plain("c1 n9 n2", 0, 0), "n7");
        told("'K' has the parameters", k.plain("K K - p0 p1", 9, 2), "w7");
        told("'K' within a call in 'K'", k.built("K c1 n9 n2", 0, 0), "n7");
        k.function(8, 0, 0, "; D o n1 ; E o n2 ; o n3 n4");
        told("a call does what it put off itself", k.plain("; D o n6 ; E o n7 ; c8 _ _ ; o n8 e9", 0, 0), "e9");
        told("and nothing of its caller", k.outputs(), "3 1 8 7 6");
        told("built", k.built("; D o n6 ; E o n7 ; c8 _ _ ; o n8 e9", 0, 0), "e9");
        told("likewise", k.outputs(), "3 1 8 7 6");
        told("what is put off in 'K' is done as 'K' is left", k.plain("; K D o n1 o n2", 0, 0), "-0");
        told("ahead of what follows", k.outputs(), "1 2");
        k.constant(7, "; D o n1 n4");
        told("and in a constant", k.plain("; d7 o n2", 0, 0), "-0");
        told("ahead of what follows", k.outputs(), "1 2");
    }

    static void putOff() {
        says("As it is left, what was put off is done, the latest one first");
        puts("; D o n1 ; D o n2 ; D o n3 n4", "3 2 1", "n4");
        puts("; D o n1 ; E o n2 ; D o n3 n4", "3 1", "n4");
        puts("; D o n1 ; E o n2 ; D o n3 e4", "3 2 1", "e4");
        puts("; D o n1 ; E o n2 ; T e4 D o n3", "2 1", "e4");
        puts("; D o n1 ; r n4 D o n3", "1", "n4");
        puts("; s0 n0 ; L < v0 n3 ; D o v0 s0 + v0 n1 n4", "3 3 3", "n4");
        puts("; D o v0 ; s0 n1 ; D s0 n2 n4", "2", "n4");
        puts("; D n1 ; D n2 n4", "", "n4");
        says("leaving in such a part ends this part alone, and what it would be left with is lost");
        puts("; D o n1 ; D ; o n2 ; r n9 o n8 n4", "2 1", "n4");
        puts("; D o n1 ; D ; o n2 ; T e9 o n8 n4", "2 1", "n4");
        puts("; D o n1 ; E o n3 ; D T e9 n4", "1", "n4");
        puts("; D o n1 ; E o n3 ; D r n9 e4", "3 1", "e4");
        puts("; D e9 n4", "", "n4");
        puts("; D ; o n1 L n1 r n9 n4", "1", "n4");
        says("what is put off in it is done, too, as the latest one");
        puts("; D o n1 ; D ; o n2 ; D o n3 o n4 n5", "2 4 3 1", "n5");
        puts("; D o n1 ; D ; D o n3 ; D o n4 o n2 n5", "2 4 3 1", "n5");
        puts("; D o n1 ; D ; D ; o n3 D o n4 o n2 n5", "2 3 4 1", "n5");
        puts("; D o n1 ; D ; D o n3 r n9 n5", "3 1", "n5");
        puts("; D o n1 ; D ; E o n3 o n2 n5", "2 1", "n5");
        puts("; D o n1 ; D ; E o n3 o n2 e5", "2 3 1", "e5");
        puts("; D ; E o n3 T e1 n5", "", "n5");
    }

    /** Bodies that go 20 calls deep just so, and 21. */
    static void within() {
        says("More than 20 calls within one another are the fault 'l', that of a run itself counted.");
        for (int deep = 20; deep <= 21; deep++) {
            boolean holds = deep == 20;
            // the run, then the calls from deep - 2 down to 0
            Desk k = new Desk();
            k.function(1, 1, 0, "i p0 c1 - p0 n1 _ p0");
            told(deep + " calls plainly", k.plain("c1 p0 _", deep - 2, 0), holds ? "w0" : "l");
            due("steps", k.x.steps(), holds ? 2 + 18 * 6 + 3 : 2 + 19 * 6);
            told(deep + " calls", k.built("c1 p0 _", deep - 2, 0), holds ? "w0" : "l");
            due("steps", k.x.steps(), holds ? 2 + 18 * 6 + 3 : 2 + 19 * 6);
            // the run, 9 'K', 9 'K' and what is left, as a constant or a call
            String last = holds ? "n7" : "K n7";
            k = new Desk();
            k.constant(5, times(8, "K") + last);
            told(deep + " of 'K' and a constant", k.plain(times(9, "K") + "d5", 0, 0), "n7");
            k.constant(5, times(8, "K") + "d6");
            k.constant(6, last);
            told(deep + " of 'K' and constants", k.plain(times(9, "K") + "d5", 0, 0), holds ? "n7" : "l");
            k.function(5, 0, 0, times(8, "K") + "c6 _ _");
            k.function(6, 0, 0, last);
            told(deep + " of 'K' and calls", k.plain(times(9, "K") + "c5 _ _", 0, 0), holds ? "n7" : "l");
            // what is put off is still within the call, and an argument is not within the call that it is for
            k.function(5, 0, 0, times(7, "K") + "D c6 _ _");
            k.function(6, 0, 0, "K " + last);
            told(deep + " with a part that is put off", k.plain(times(9, "K") + "c5 _ _", 0, 0), holds ? "-0" : "l");
            k.function(5, 1, 0, "p0");
            k.function(6, 0, 0, times(8, "K") + "c7 _ _");
            k.function(7, 1, 0, holds ? "c5 n7 _" : "K c5 n7 _");
            told(deep + " with the last one's argument", k.plain(times(8, "K") + "c6 _ _", 0, 0), holds ? "n7" : "l");
            k.function(6, 0, 0, times(holds ? 7 : 8, "K") + "c7 n7 _");
            k.function(7, 1, 0, "c5 c5 c5 p0 _ _ _");
            told(deep + " with calls in arguments", k.plain(times(9, "K") + "c6 _ _", 0, 0), holds ? "n7" : "l");
        }
    }

    static void withinForEver() {
        Desk k = new Desk();
        k.function(1, 0, 0, "c1 _ _");
        due("for ever", k.x.plain(1, 0, 0), 'l');
        due("steps", k.x.steps(), 20);
        due("build", k.x.build(1), '-');
        due("for ever", k.x.run(0, 0), 'l');
        due("steps", k.x.steps(), 20);
        k.constant(5, "d5");
        told("a constant for ever", k.plain("d5", 0, 0), "l");
        due("steps", k.x.steps(), 20);
        // as deep in nodes as may be, too
        k.function(1, 0, 0, times(9, "T") + "c1 _ _");
        due("10 nodes within one another in each call", k.x.plain(1, 0, 0), 'l');
        due("steps", k.x.steps(), 200);
        due("build", k.x.build(1), '-');
        due("10 nodes within one another in each call", k.x.run(0, 0), 'l');
        due("steps", k.x.steps(), 200);
        k.function(1, 1, 0, times(6, "+ n0") + "i p0 c1 - p0 n1 _ p0");
        due("20 calls", k.x.plain(1, 19, 0), 'v');
        due("21 calls", k.x.plain(1, 20, 0), 'l');
        // calls behind one another are not within one another
        k.function(1, 0, 0, "n1");
        told("30 calls", k.plain("; s0 n0 ; L < v0 n30 s0 + v0 c1 _ _ v0", 0, 0), "n30");
        told("30 calls", k.built("; s0 n0 ; L < v0 n30 s0 + v0 c1 _ _ v0", 0, 0), "n30");
        told("30 calls", k.kept("; s0 n0 ; L < v0 n30 s0 + v0 c1 _ _ v0"), "n30");
    }

    static void noSuch() {
        says("A function that is called as a constant, or the other way round, or a declaration that is not there, is the "
                + "fault 'd'.");
        Desk k = new Desk();
        k.constant(5, "n1");
        k.function(6, 0, 0, "n1");
        for (String no : new String[] {"d6", "c5 _ _", "d7", "c7 _ _"}) {
            told(no + " in a build", k.built(no, 0, 0), "!d");
            told("found in the function", k.trace(), "0");
            told(no + " plainly", k.plain(no, 0, 0), "d");
            due("the node counts", k.x.steps(), 1);
            told(no + " in 'K'", k.built("K " + no, 0, 0), "!d");
            told("found in the function", k.trace(), "0");
            due("the node counts", k.x.worked(), 1);
            told(no + " in a constant", k.kept(no), "d");
            told("found in the constant", k.trace(), "19 8");
            k.function(4, 0, 0, no);
            told(no + " in a call", k.built("K c4 _ _", 0, 0), "!d");
            told("found in the call", k.trace(), "24 0");
            told(no + " in a function that is called", k.built("c4 _ _", 0, 0), "!d");
            told("found in the function that is called", k.trace(), "4 0");
        }
        told("d5", k.built("d5", 0, 0), "n1");
        told("c6", k.built("c6 _ _", 0, 0), "n1");
    }

    static void faultEnds() {
        says("A fault ends all at once.");
        Desk k = new Desk();
        k.function(1, 0, 0, "; D o n1 ; E o n2 / n1 n0");
        told("plainly", k.plain("; o n5 ; D o n6 ; c1 _ _ o n7", 0, 0), "z");
        told("nothing that was put off is done", k.outputs(), "5");
        told("in a run", k.built("; o n5 ; D o n6 ; / n1 - p0 p0 o n7", 0, 0), "z");
        told("nothing that was put off is done", k.outputs(), "5");
        told("in a part that is put off", k.plain("; D o n1 ; D / n1 n0 ; D o n2 n5", 0, 0), "z");
        told("what comes behind it is not done", k.outputs(), "2");
        told("'C' does not catch it", k.plain("C / n1 n0 n5", 0, 0), "z");
        told("nor 'T'", k.plain("C T / n1 n0 n5", 0, 0), "z");
        told("in a build", k.kept("; D d7 / n1 n0"), "z");
    }

    static void manyFaults() {
        Desk k = new Desk();
        k.function(1, 1, 0, times(6, "+ n0") + "i p0 c1 - p0 n1 _ / n1 n0");
        k.function(2, 1, 1, times(6, "+ n0") + "i p0 c2 - p0 n1 _ / n1 n0");
        k.function(3, 0, 0, "c2 n28 _");
        k.function(4, 0, 0, "K c1 n18 _");
        k.function(5, 0, 0, "L n1 D n1");
        k.function(6, 1, 0, "; D o n1 " + times(5, "+ n0") + "i p0 c6 - p0 n1 _ n7");
        due("nothing of it is left behind", k.x.build(6), '-');
        for (int turn = 0; turn < 60; turn++) {
            due("a run", k.x.plain(1, 18, 0), 'z');
            due("a build", k.x.build(3), 'z');
            due("'K' in a build", k.x.build(4), 'z');
            due("parts that are put off", k.x.plain(5, 0, 0), 'l');
        }
        due("as ahead", k.x.run(19, 0), 'v');
        due("as ahead", k.x.outputs(), 20);
        due("as ahead", k.x.plain(6, 19, 0), 'v');
        due("as ahead", k.x.outputs(), 20);
        due("one more", k.x.plain(6, 20, 0), 'l');
        k.function(2, 1, 1, times(6, "+ n0") + "i p0 c2 - p0 n1 _ n7");
        due("as ahead", k.x.build(3), '-');
        k.function(1, 1, 0, times(6, "+ n0") + "i p0 c1 - p0 n1 _ n7");
        due("as ahead", k.x.build(4), '-');
    }

    // ---- Known

    static void known() {
        whatIsKnown();
        stillLookedAt();
        faultsOfBuild();
        callsLookedAt();
        thirtyMade();
        keptOnesIncluded();
        thirtyOfOthers();
        kAsInRun();
        onceForEachRow();
        neededWhileWorkedOut();
        fiveHundredNodes();
        asOftenAsNeeded();
        nodesOfSeveralLevels();
        deepInNodes();
        twentyLevels();
        twentyCalls();
        twentyFromNothing();
        shallowBehindDeep();
    }

    /** An argument that must be known tells what is known: '-' or 'u'; and how many nodes are left of it. */
    static void whatIsKnown() {
        says("a node is known if it is 'n', 'e', 'F', 'd', 'K', a parameter that is told to be known, or is not there");
        Object[][] leaves = {{"n3", 0}, {"e3", 0}, {"F", 0}, {"d5", 0}, {"K n3", 0}, {"K K n3", 0}, {"p1", 0}, {"p0", 1}, {"v0", 1},
            {"K v0", 0}, {"K ; s0 n1 v0", 0}, {"K c3 _ _", 0}, {"K r n1", 0}, {"K T e1", 0}};
        know(leaves);
        says("or an operator, 'k', 't', 'y', 'z' or 'x' of which all parts are known");
        for (String o : OPERATORS) {
            know(new Object[][] {{o + " w1:8 w1:8", 0}, {o + " p0 w1:-32", 2}, {o + " w1:-32 p0", 2}, {o + " p0 p0", 3},
                {o + " v0 v0", 3}});
        }
        know(new Object[][] {{"k n1 t8", 0}, {"k p0 t8", 2}, {"k n1 y p0", 3}, {"t+ n8", 0}, {"t- n8", 0}, {"t+ p0", 2}, {"t- v0", 2},
            {"y n1", 0}, {"y p0", 2}, {"z t8", 0}, {"z y p0", 3}, {"x f1", 0}, {"x k p0 F", 3}});
        says("an 'i' of which the part a is known is the one of both other parts that is chosen, and the other one is not "
                + "looked at");
        know(new Object[][] {{"i n1 n2 p0", 0}, {"i n0 n2 p0", 1}, {"i n1 n2 d9", 0}, {"i n0 d9 n2", 0}, {"i n0 d9 + p0 n2", 2},
            {"i p0 n1 n1", 2}, {"i p0 p0 p0", 4}, {"i n1 i n0 d9 p0 d9", 1}});
        says("a 'C' of which the part a is known is this, or the part b if it is an error, and otherwise b is not looked at");
        know(new Object[][] {{"C n1 d9", 0}, {"C n1 p0", 0}, {"C e1 n2", 0}, {"C e1 p0", 1}, {"C e1 + p0 n1", 2}, {"C p0 n1", 2},
            {"C p0 p0", 3}, {"C F d9", 0}, {"C p1 d9", 0}, {"C e0 C e1 n2", 0}});
        says("';' of a known part a is the part b");
        know(new Object[][] {{"; n1 n2", 0}, {"; n1 p0", 1}, {"; p0 n1", 2}, {"; e1 p0", 1}, {"; n1 ; n2 + p0 n1", 2}, {"; s0 n1 n2", 2}});
        says("a 'T' of a known part that is no error is this");
        know(new Object[][] {{"T n1", 0}, {"T F", 0}, {"T p1", 0}, {"T e1", 1}, {"T p0", 2}, {"T i n1 p0 n1", 2}, {"T T n1", 0}});
        says("All else is not known");
        know(new Object[][] {{"v3", 1}, {"c3 _ _", 1}, {"s0 n1", 1}, {"L n0 n1", 1}, {"L p0 p0", 3}, {"r n1", 1}, {"r p0", 2}, {"D n1", 1},
            {"D p0", 2}, {"E n1", 1}, {"E p0", 2}, {"o n1", 1}, {"o p0", 2}});
    }

    static void know(Object[][] rows) {
        for (Object[] row : rows) {
            Desk k = new Desk();
            k.constant(5, "n5");
            k.function(3, 0, 0, "n5");
            k.function(1, 1, 1, "n1");
            boolean known = (Integer) row[1] == 0;
            boolean calls = row[0].equals("c3 _ _");
            due(row[0] + " as an argument", k.ends(1, "c1 " + row[0] + " _"), known ? '-' : 'u');
            due(row[0] + " built", k.ends(1, "" + row[0]), '-');
            due(row[0] + " leaves", k.x.nodesLeft(), (Integer) row[1]);
            due("functions", k.x.made(), 1 + (known || calls ? 1 : 0));
        }
    }

    static void stillLookedAt() {
        says("and its parts are looked at, from the first one on");
        for (String body : new String[] {"s0 d9", "L n0 d9", "L d9 n1", "r d9", "D d9", "E d9", "o d9", "T d9", "; p0 d9", "; d9 p0",
            "C p0 d9", "C e1 d9", "i p0 d9 n1", "i p0 n1 d9", "+ p0 d9", "+ d9 p0", "k p0 d9", "t+ d9", "y d9", "z d9", "x d9", "K d9",
            "c3 d9 _", "; r n1 d9", "; T e1 d9"}) {
            Desk k = new Desk();
            k.function(3, 1, 0, "n1");
            due(body, k.ends(1, body), 'd');
            told("found in function 0", k.trace(), "0");
        }
        for (String kind : "+ - * / % < = P Q k C ; L".split(" ")) {
            due(kind + ", the first part", new Desk().ends(1, kind + " ; p0 / n1 n0 w9:1"), 'z');
            due(kind + ", the second part", new Desk().ends(1, kind + " ; p0 n1 w9:1"), 'c');
        }
    }

    static void faultsOfBuild() {
        says("What is known is worked out then, and its faults are those of the build.");
        String[][] rows = {{"+ w255:8 n1", "o"}, {"/ n1 n0", "z"}, {"k n1 n1", "t"}, {"w2:1", "c"}, {"+ e1 n1", "t"}, {"i e1 n1 n2", "t"},
            {"t+ n33", "t"}, {"y e1", "t"}, {"z n1", "t"}, {"x n1", "t"}, {"K / n1 n0", "z"}, {"K d9", "d"}, {"K p0", "u"}, {"K o n1", "u"}};
        for (String[] row : rows) {
            told(row[0], new Desk().built(row[0], 0, 0), "!" + row[1]);
            told(row[0] + " within", new Desk().built("i p0 n1 " + row[0], 0, 0), "!" + row[1]);
            Desk k = new Desk();
            k.function(2, 1, 0, row[0]);
            due("of a function that is called", k.ends(0, "; c2 p1 _ n1"), row[1].charAt(0));
            told("found in it", k.trace(), "2 0");
        }
        Desk k = new Desk();
        k.function(1, 1, 1, "/ n6 p0");
        told("for some rows", k.built("c1 n2 _", 0, 0), "n3");
        told("and not for others", k.built("c1 n0 _", 0, 0), "!z");
        told("found for this row", k.trace(), "1 0");
        due("the other row is kept", k.x.made(), 1);
        told("plainly it is a fault of the run", k.plain("c1 n0 _", 0, 0), "z");
    }

    static void callsLookedAt() {
        says("A call of a function is looked at by working out its arguments, of which those for known parameters must be "
                + "known, or it is the fault 'u', and making the function for these");
        for (int known = 0; known < 4; known++) {
            for (int given = 0; given < 4; given++) {
                Desk k = new Desk();
                k.function(1, 2, known, "n1");
                String call = "c1 " + ((given & 1) != 0 ? "n7" : "p0") + " " + ((given & 2) != 0 ? "n8" : "p0");
                boolean lacks = (known & ~given) != 0;
                due(call + " for known " + known, k.ends(1, call), lacks ? 'u' : '-');
                due("made", k.x.made(), lacks ? 0 : 2);
                due("looked", k.x.looked(), lacks ? 1 : 2);
                told("trace", k.trace(), lacks ? "0" : "");
            }
        }
        Desk k = new Desk();
        k.function(1, 2, 1, "d9");
        due("the fault of the second argument ahead of 'u'", k.ends(1, "c1 p0 / n1 n0"), 'z');
        due("'u' ahead of what is in the function", k.ends(1, "c1 p0 n1"), 'u');
        due("a missing argument is known", k.ends(1, "c1 _ p0"), 'd');
        told("found in the function", k.trace(), "1 0");
        k.function(1, 1, 1, "n1");
        due("an argument that is left out may be what it likes", k.ends(1, "c1 n1 d9"), '-');
        k.function(2, 1, 0, "n1");
        due("a call in an argument is looked at, too", k.ends(1, "c1 c2 p0 _ _"), 'u');
        due("and made", k.x.made(), 2);
        due("what is not there, and a parameter that is not", k.ends(0, "; c1 _ _ ; c1 p0 _ c1 K v0 _"), '-');
        due("are one row of arguments, beside that of n1", k.x.made(), 4);
        says("unless it was made, or is being made");
        k = new Desk();
        k.function(1, 1, 1, "n5");
        due("twice", k.ends(0, "; c1 n1 _ ; c1 n1 _ c1 n1 _"), '-');
        due("made once", k.x.looked(), 2);
        due("each place counts", k.x.nodesLeft(), 5);
        k.function(2, 0, 0, "c1 n1 _");
        due("made for an earlier build", k.x.build(2), '-');
        due("looked", k.x.looked(), 1);
        k.function(3, 1, 0, "i p0 c3 - p0 n1 _ n6");
        due("of itself", k.ends(1, "c3 p0 _"), '-');
        due("once", k.x.looked(), 2);
        k.function(3, 1, 0, "i p0 c4 - p0 n1 _ n6");
        k.function(4, 1, 0, "i p0 c3 - p0 n1 _ n7");
        told("of one another", k.built("c3 p0 _", 3, 0), "n7");
        due("once", k.x.looked(), 3);
        k.function(3, 1, 1, "c3 p0 _");
        due("of itself for the same row", k.ends(1, "; c3 n1 _ c3 w1:8 _"), '-');
        due("a row each", k.x.looked(), 3);
    }

    /** Function 1 calls itself for its known parameter less 1, down to 0. */
    static Desk descent() {
        Desk k = new Desk();
        k.function(1, 1, 1, "i p0 c1 - p0 n1 _ n7");
        return k;
    }

    static void thirtyMade() {
        says("A build leads to at most 30 made functions, kept ones and all to which they lead included, otherwise it is the "
                + "fault 'q'.");
        Desk k = descent();
        due("30 functions", k.ends(0, "c1 n28 _"), '-');
        due("made", k.x.made(), 30);
        due("looked", k.x.looked(), 30);
        told("run", k.x.run(0, 0) + "", "l");
        k = descent();
        due("31 functions", k.ends(0, "c1 n29 _"), 'q');
        due("made", k.x.made(), 0);
        due("looked", k.x.looked(), 30);
        due("trace", k.x.trace(), 30);
        told("as they call", k.trace(), times(29, "1") + "0");
    }

    /** Kept ones count with all to which they lead, whether they are reached first or last. */
    static void keptOnesIncluded() {
        for (int turn = 0; turn < 8; turn++) {
            boolean holds = turn % 2 == 0;
            boolean keptFirst = turn % 4 < 2;
            boolean early = turn < 4;
            Desk k = descent();
            k.function(2, 1, 1, "i p0 c2 - p0 n1 _ n7");
            k.function(3, 0, 0, "c1 n9 _");
            if (early) {
                due("11 functions", k.x.build(3), '-');
            }
            String many = "c2 n" + (holds ? 17 : 18) + " _";
            due("with 11 that are kept", k.ends(0, keptFirst ? "; c3 _ _ " + many : "; " + many + " c3 _ _"), holds ? '-' : 'q');
            due("looked", k.x.looked(), holds ? early ? 19 : 30 : !early ? 30 : keptFirst ? 19 : 20);
            due("made", k.x.made(), holds ? 30 : early ? keptFirst ? 11 : 30 : keptFirst ? 11 : 19);
        }
    }

    static void thirtyOfOthers() {
        // each of them as deep in nodes as may be
        Desk k = new Desk();
        k.function(1, 1, 1, "i p0 " + times(6, "T") + "c1 - p0 n1 _ n7");
        due("30 functions", k.ends(0, times(8, "T") + "c1 n28 _"), '-');
        due("made", k.x.made(), 30);
        // what is kept and not led to does not count
        k = descent();
        due("30 functions", k.ends(0, "c1 n28 _"), '-');
        k.function(2, 1, 1, "i p0 c2 - p0 n1 _ n7");
        due("30 other functions", k.ends(0, "c2 n28 _"), '-');
        k.function(3, 0, 0, "c1 n28 _");
        due("and 30 once more", k.x.build(3), '-');
        due("made", k.x.made(), 60);
        // one that is led to by several counts once
        k = descent();
        due("a function twice counts once", k.ends(0, "; c1 n28 _ ; c1 n28 _ c1 n5 _"), '-');
        due("made", k.x.made(), 30);
        // calls in 'K' are not made functions
        k = new Desk();
        k.function(1, 1, 0, "p0");
        due("40 calls in 'K'", k.ends(0, "K ; s0 n0 L < v0 n40 s0 + c1 v0 _ n1"), '-');
        due("calls", k.x.calls(), 40);
        due("made", k.x.made(), 1);
    }

    static void kAsInRun() {
        says("The part of 'K' is worked out as the build goes on, as in a run: parameters that are there and not known, and "
                + "what puts out, are the fault 'u' there.");
        Desk k = new Desk();
        due("a parameter that is not known", k.ends(1, "K p0"), 'u');
        told("found in the function", k.trace(), "0");
        due("one that is not there", k.ends(1, "K p1"), '-');
        due("the second one", k.ends(2, "K p1"), 'u');
        due("one that is not reached", k.ends(1, "K i n1 n2 p0"), '-');
        k.function(1, 2, 1, "K p0");
        told("a known one", k.built("c1 n7 p0", 0, 0), "n7");
        k.function(1, 2, 1, "K p1");
        told("the other one", k.built("c1 n7 p0", 0, 0), "!u");
        told("found in the function", k.trace(), "1 0");
        k.function(1, 2, 2, "K p1");
        told("a known second one", k.built("c1 p0 n7", 0, 0), "n7");
        k.function(1, 2, 2, "K + p1 p0");
        told("the other one", k.built("c1 p0 n7", 0, 0), "!u");
        k.function(1, 2, 0, "- p0 p1");
        told("those of a call in 'K' are known", k.built("K c1 n7 n8", 0, 0), "n-1");
        told("but not of its arguments", k.built("K c1 p0 n8", 0, 0), "!u");
        told("found ahead of the call", k.trace(), "0");
        told("what puts out", k.built("K ; n1 o n2", 0, 0), "!u");
        due("the part of 'o' was worked out", k.x.worked(), 4);
        told("what puts out and is not reached", k.built("K i n1 n3 o n2", 0, 0), "n3");
        told("what puts out later", k.built("K ; D o n2 n3", 0, 0), "!u");
        told("what would put out with an error", k.built("K ; E o n2 n3", 0, 0), "n3");
        told("what puts out with an error", k.built("K ; E o n2 e3", 0, 0), "!u");
        says("So is the body of a constant, once.");
        told("what puts out in a constant", k.kept("o n2"), "u");
        told("a parameter in a constant is not there", k.kept("+ n1 i = p0 p1 n2 n3"), "n3");
        k.constant(9, "+ n1 n2");
        k.function(8, 0, 0, "; d9 ; d9 K + d9 d9");
        due("build", k.x.build(8), '-');
        due("worked out once", k.x.worked(), 3 + 3);
        due("looked", k.x.looked(), 2);
        k.function(7, 0, 0, "d9");
        due("build", k.x.build(7), '-');
        due("kept", k.x.worked(), 0);
        k.x.plain(7, 0, 0);
        due("plainly it is worked out", k.x.steps(), 4);
    }

    static void onceForEachRow() {
        says("Calls in these are worked out once for each function and each row of same arguments, and kept.");
        Desk k = new Desk();
        k.function(1, 2, 0, "= p0 p1");
        due("build", k.ends(0, "K ; c1 n1 n2 ; c1 n1 n2 c1 n2 n1"), '-');
        due("rows", k.x.calls(), 2);
        due("worked", k.x.worked(), 2 + 3 * 3 + 2 * 3);
        due("looked", k.x.looked(), 3);
        k.function(2, 0, 0, "K c1 n1 n2");
        due("a later build", k.x.build(2), '-');
        due("has it kept", k.x.worked(), 3);
        due("looked", k.x.looked(), 1);
        k.function(3, 2, 0, "= p0 p1");
        k.function(2, 0, 0, "K c3 n1 n2");
        due("another function", k.x.build(2), '-');
        due("calls", k.x.calls(), 3);
        k.function(2, 0, 0, "K ; c3 _ n2 c3 n1 _");
        due("arguments that are not there", k.x.build(2), '-');
        due("calls", k.x.calls(), 5);
        k.function(2, 0, 0, "K ; c3 v0 n2 c3 n1 p0");
        due("and arguments that are nothing", k.x.build(2), '-');
        due("are the same", k.x.calls(), 5);
        k.constant(5, "c3 n1 n2");
        k.function(2, 0, 0, "d5");
        due("a call in a constant", k.x.build(2), '-');
        due("is kept already", k.x.looked(), 2);
        k.function(4, 1, 0, "p0");
        k.function(2, 0, 0, "K ; c4 n1 n1 ; c4 n1 n2 c4 n1 _");
        due("arguments that are left out", k.x.build(2), '-');
        due("are no row", k.x.calls(), 6);
        due("a call in a made function is none of these", k.ends(0, "c4 n1 _"), '-');
        due("calls", k.x.calls(), 6);
    }

    static void neededWhileWorkedOut() {
        says("A constant, or such a call, that is needed while it is worked out is the fault 'r'.");
        Desk k = new Desk();
        told("a constant of itself", k.kept("d9"), "r");
        told("trace", k.trace(), "19 8");
        told("within 'K'", k.kept("K K d9"), "r");
        told("trace", k.trace(), "19 8");
        told("where it is not reached", k.kept("i n0 d9 n1"), "n1");
        k.constant(5, "+ n1 d6");
        k.constant(6, "+ n1 d5");
        told("two of one another", k.built("d5", 0, 0), "!r");
        told("trace", k.trace(), "16 15 0");
        told("from the other one", k.built("d6", 0, 0), "!r");
        told("trace", k.trace(), "15 16 0");
        due("neither is kept", k.x.constants(), 1);
        k.function(1, 1, 0, "c1 p0 _");
        told("a call of itself for the same row", k.built("K c1 n1 _", 0, 0), "!r");
        told("trace", k.trace(), "21 0");
        k.function(1, 1, 0, "i p0 c1 - p0 n1 _ n7");
        told("for other rows", k.built("K c1 n9 _", 0, 0), "n7");
        k.function(1, 1, 0, "c2 - n1 p0 _");
        k.function(2, 1, 0, "c1 p0 _");
        told("for a row that comes again", k.built("K c1 n0 _", 0, 0), "!r");
        told("trace", k.trace(), "22 21 22 21 0");
        k.constant(5, "c3 _ _");
        k.function(3, 0, 0, "d5");
        told("a call that needs the constant", k.built("d5", 0, 0), "!r");
        told("trace", k.trace(), "23 15 0");
        told("the other way round", k.built("K c3 _ _", 0, 0), "!r");
        told("trace", k.trace(), "15 23 0");
        told("in a run it is only too deep", k.plain("d5", 0, 0), "l");
        // a function that is being made may call itself, and one that is made is not worked out
        told("a made function of itself", k.built("i p0 c0 - p0 n1 _ n7", 3, 0), "n7");
        k.function(4, 0, 0, "; c4 _ _ d5");
        k.constant(5, "K n1");
        due("a made function, and a constant", k.x.build(4), '-');
    }

    static void fiveHundredNodes() {
        says("The nodes of a 'K', a constant or such a call, with those of all that it needs, each as often as it needs it, "
                + "kept or not, are at most 500, otherwise it is the fault 'q'");
        for (int nodes = 499; nodes <= 502; nodes++) {
            boolean holds = nodes <= 500;
            Desk k = new Desk();
            due("'K' of " + nodes, k.ends(0, "K " + nodes(nodes)), holds ? '-' : 'q');
            due("worked", k.x.worked(), Math.min(nodes, 500));
            told("trace", k.trace(), holds ? "" : "0");
            told("a constant of " + nodes, k.kept(nodes(nodes)), holds ? "n" + rounds(nodes) : "q");
            due("worked", k.x.worked(), Math.min(nodes, 500));
            due("constants", k.x.constants(), holds ? 1 : 0);
            told("trace", k.trace(), holds ? "" : "19 8");
            // the call is a node of 'K', too
            k.function(1, 0, 0, nodes(nodes));
            due("a call of " + nodes, k.ends(0, "K c1 _ _"), nodes < 500 ? '-' : 'q');
            due("worked", k.x.worked(), Math.min(nodes + 1, 501));
            due("calls", k.x.calls(), holds ? 1 : 0);
            told("trace", k.trace(), nodes < 500 ? "" : holds ? "0" : "21 0");
            told("in a run there may be more", k.plain("c1 _ _", 0, 0), "n" + rounds(nodes));
        }
    }

    static void asOftenAsNeeded() {
        for (int early = 0; early < 2; early++) {
            for (int more = 0; more < 2; more++) {
                boolean holds = more == 0;
                String end = holds ? "n" + rounds(248) : "!q";
                Desk k = new Desk();
                k.constant(5, nodes(248));
                k.function(1, 0, 0, nodes(248));
                k.function(2, 0, 0, "; d5 K c1 _ _");
                if (early == 1) {
                    due("early", k.x.build(2), '-');
                }
                String second = holds ? "; d5 T d5" : "; T d5 T d5";
                told("a constant twice in 'K'", k.built("K " + second, 0, 0), end);
                due("worked", k.x.worked(), 4 + more + (1 - early) * 248);
                k.constant(6, second);
                told("a constant twice in a constant", k.built("d6", 0, 0), end);
                told("trace", k.trace(), holds ? "" : "16 0");
                due("constants", k.x.constants(), holds ? 2 : 1);
                second = second.replace("d5", "c1 _ _");
                told("a call twice in 'K'", k.built("K " + second, 0, 0), end);
                due("calls", k.x.calls(), 1);
                k.constant(6, second);
                told("a call twice in a constant", k.built("d6", 0, 0), end);
                k.function(3, 0, 0, holds ? "; d5 c1 _ _" : "; d5 T c1 _ _");
                told("both in a call", k.built("K c3 _ _", 0, 0), end);
                due("calls", k.x.calls(), 2);
                k.function(3, 0, 0, holds ? "; d5 K " + nodes(248) : "; d5 T K " + nodes(248));
                told("a constant and 'K' in a call", k.built("K c3 _ _", 0, 0), end);
                told("trace", k.trace(), holds ? "" : "0");
            }
        }
    }

    static void nodesOfSeveralLevels() {
        for (int early = 0; early < 2; early++) {
            Desk k = new Desk();
            k.constant(4, nodes(120));
            k.constant(5, "; d4 d4");
            k.constant(6, "; d5 d5");
            k.constant(7, "; d6 n1");
            k.constant(8, "; d6 ; n1 n1");
            k.function(1, 0, 0, "d6");
            if (early == 1) {
                due("489 nodes", k.x.build(1), '-');
            }
            told("492 nodes", k.built("d7", 0, 0), "n1");
            told("494 nodes", k.built("d8", 0, 0), "n1");
            told("499 nodes", k.built("K ; d6 ; n1 ; n1 ; n1 T n1", 0, 0), "n1");
            told("500 nodes", k.built("K ; d6 ; n1 ; n1 ; n1 ; n1 n1", 0, 0), "n1");
            told("501 nodes", k.built("K ; d6 ; n1 ; n1 ; n1 ; n1 T n1", 0, 0), "!q");
        }
        Desk k = new Desk();
        k.constant(5, nodes(400));
        told("each 'K' and constant of a function by itself", k.built("; d5 ; d5 ; K " + nodes(500) + " ; K d5 d5", 0, 0), "n55");
        told("not reached", k.built("K i n1 n1 ; d5 d5", 0, 0), "n1");
    }

    static void deepInNodes() {
        Desk deep = new Desk();
        for (int d = 1; d < 9; d++) {
            deep.function(d, 0, 0, times(9, "T") + "c" + (d + 1) + " _ _");
        }
        deep.function(9, 0, 0, times(9, "T") + "c9 _ _");
        told("10 nodes within one another in each call", deep.built(times(9, "K") + "c1 _ _", 0, 0), "!r");
        told("trace", deep.trace(), "29 28 27 26 25 24 23 22 21 0");
        due("worked", deep.x.worked(), 9 + 90);
    }

    static void twentyLevels() {
        says("and they are at most 20 within one another, a kept one as deep as it went, otherwise it is the fault 'l'");
        for (int early = 0; early < 3; early++) {
            for (int more = 0; more < 2; more++) {
                boolean holds = more == 0;
                // constant 5, 9 'K', constant 6, and 9 'K' with what is left
                Desk k = new Desk();
                k.constant(5, times(9, "K") + "d6");
                k.constant(6, times(8, "K") + "d7");
                k.constant(7, holds ? "n7" : "K n7");
                k.function(1, 0, 0, early == 1 ? "d7" : "d6");
                if (early > 0) {
                    due("early", k.x.build(1), '-');
                }
                told("20 levels from a constant, or 21", k.built("d5", 0, 0), holds ? "n7" : "!l");
                told("trace", k.trace(), holds ? "" : early == 0 ? "17 16 15 0" : early == 1 ? "16 15 0" : "15 0");
                due("constants", k.x.constants(), holds ? 3 : early == 0 ? 0 : early);
                // 'K', call 5, 8 'K', call 6, 8 'K', call 7
                k = new Desk();
                k.function(5, 0, 0, times(8, "K") + "c6 _ _");
                k.function(6, 0, 0, times(8, "K") + "c7 _ _");
                k.function(7, 0, 0, holds ? "n7" : "K n7");
                k.function(1, 0, 0, early == 1 ? "K c7 _ _" : "K c6 _ _");
                if (early > 0) {
                    due("early", k.x.build(1), '-');
                }
                told("20 levels from 'K', or 21", k.built("K c5 _ _", 0, 0), holds ? "n7" : "!l");
                told("trace", k.trace(), holds ? "" : early == 0 ? "27 26 25 0" : early == 1 ? "26 25 0" : "25 0");
                due("calls", k.x.calls(), holds ? 3 : early == 0 ? 0 : early);
            }
        }
    }

    static void twentyCalls() {
        Desk k = new Desk();
        k.function(1, 1, 0, "i p0 c1 - p0 n1 _ n7");
        told("'K' and 19 calls", k.built("K c1 n18 _", 0, 0), "n7");
        told("'K' and 20 calls", k.built("K c1 n19 _", 0, 0), "!l");
        told("found in the call that is kept too deep", k.trace(), "21 0");
        due("calls are kept", k.x.calls(), 19);
        told("two 'K' and 19 calls", k.built("K K c1 n18 _", 0, 0), "!l");
        told("found in 'K'", k.trace(), "0");
        told("two 'K' and 18 calls", k.built("K K c1 n17 _", 0, 0), "n7");
        k.constant(5, "c1 n18 _");
        told("a constant and 19 calls", k.built("d5", 0, 0), "n7");
        told("kept as deep as it went", k.built("K d5", 0, 0), "!l");
        k.constant(6, "d5");
        told("in a constant, too", k.built("d6", 0, 0), "!l");
        told("found there", k.trace(), "16 0");
        due("the other one is kept", k.x.constants(), 1);
        told("behind one another they are not within", k.built("; d5 ; d5 ; K c1 n18 _ K K c1 n17 _", 0, 0), "n7");
        told("made functions are no levels", k.built("i p0 c0 - p0 n1 _ d5", 19, 0), "n7");
    }

    static void twentyFromNothing() {
        for (int from = 18; from <= 19; from++) {
            Desk fresh = new Desk();
            fresh.function(1, 1, 0, "i p0 c1 - p0 n1 _ n7");
            told("from nothing", fresh.built("K c1 n" + from + " _", 0, 0), from == 18 ? "n7" : "!l");
            due("looked", fresh.x.looked(), 20);
            due("trace", fresh.x.trace(), from == 18 ? 0 : 20);
            due("kept", fresh.x.calls(), from == 18 ? 19 : 0);
            fresh.constant(1, times(9, "K") + "d2");
            fresh.constant(2, times(from == 18 ? 8 : 9, "K") + "d3");
            fresh.constant(3, "n7");
            told("constants from nothing", fresh.built("d1", 0, 0), from == 18 ? "n7" : "!l");
            due("looked", fresh.x.looked(), from == 18 ? 4 : 3);
            told("the one too many is not begun", fresh.trace(), from == 18 ? "" : "12 11 0");
        }
    }

    static void shallowBehindDeep() {
        Desk shallow = new Desk();
        shallow.constant(5, times(9, "K") + "d6");
        shallow.constant(6, times(8, "K") + "d7");
        shallow.constant(7, "n7");
        shallow.constant(8, "K n8");
        shallow.constant(9, times(9, "K") + "c1 _ _");
        shallow.function(1, 0, 0, times(7, "K") + "d8");
        told("a shallow one behind a deep one is shallow", shallow.built("; d5 d8", 0, 0), "n8");
        told("and may be needed", shallow.built("d9", 0, 0), "n8");
        told("levels are those of the deepest one", shallow.built("K ; d8 ; d9 d8", 0, 0), "!l");
    }

    // ---- Builds

    static void builds() {
        makesAll();
        editsDrop();
        dropsByEachNumber();
        dropsWhatLooked();
        dropsNoMore();
        faultsDrop();
        faultsDropThings();
        faultsDropNothingElse();
        faultsDropWhatLeads();
        traceIsTheWay();
    }

    static void makesAll() {
        says("A build makes a function without known parameters, and all that it leads to.");
        Desk k = new Desk();
        k.function(1, 1, 1, "c2 p0 n1");
        k.function(2, 2, 1, "c3 p0 p1");
        k.function(3, 2, 0, "+ p0 p1");
        due("build", k.ends(0, "c1 n5 _"), '-');
        due("made", k.x.made(), 4);
        due("build of one of them", k.x.build(3), '-');
        due("is there", k.x.looked(), 0);
        due("of one with known parameters", k.x.build(2), 'u');
        due("and", k.x.build(1), 'u');
        due("is not made", k.x.made(), 4);
        says("What was made, constants and calls are kept for later builds");
        k.constant(5, "K c3 n1 n2");
        due("build", k.ends(0, "; d5 c1 n5 _"), '-');
        due("the function, the constant, the call", k.x.looked(), 3);
        k.function(4, 0, 0, "; K c3 n1 n2 ; d5 c2 n5 n1");
        due("build", k.x.build(4), '-');
        due("the function alone", k.x.looked(), 1);
        due("made", k.x.made(), 5);
    }

    static void editsDrop() {
        says("each with the declarations that it, or what it led to, looked at; an edit of a declaration drops all that "
                + "looked at it");
        // how many of the functions 0, 1, 2, 3 and 9, the constants 5 and 6 and the call of 4 an edit drops
        int[] drops = {1, 2, 3, 2, 3, 2, 4, 0, 0, 1};
        for (int d = 0; d < 10; d++) {
            for (int how = 0; how < 4; how++) {
                Desk k = new Desk();
                k.constant(6, "n1");
                k.constant(5, "d6");
                k.constant(8, "n1");
                k.function(4, 1, 0, "+ p0 n1");
                k.function(3, 0, 0, "K c4 n1 _");
                k.function(2, 1, 1, "n3");
                k.function(1, 1, 0, "c2 n3 _");
                due("one build", k.ends(0, "; c1 n1 _ d5"), '-');
                k.function(9, 0, 0, "; c3 _ _ d6");
                due("another one", k.x.build(9), '-');
                due("made", k.x.made(), 5);
                due("kept", k.x.constants() + k.x.calls(), 3);
                if (how == 0) {
                    due("constant " + d, k.constant(d, "n1"), drops[d]);
                } else if (how == 1) {
                    due("function " + d, k.function(d, 0, 0, "n1"), drops[d]);
                } else if (how == 2) {
                    due("function " + d, k.function(d, 2, 3, "d" + d), drops[d]);
                } else if (d != 7) {
                    due("remove " + d, k.x.remove(d), drops[d]);
                }
                due("left", k.x.made() + k.x.constants() + k.x.calls(), 8 - drops[d]);
            }
        }
    }

    static void dropsByEachNumber() {
        says("an edit of a declaration drops all that looked at it");
        for (int d = 0; d < 10; d++) {
            int other = (d + 1) % 10;
            Desk k = new Desk();
            k.constant(d, "n7");
            k.function(other, 0, 0, "d" + d);
            due("build", k.x.build(other), '-');
            due("constants", k.x.constants(), 1);
            due("calls", k.x.calls(), 0);
            due("the constant and the function", k.x.remove(d), 2);
            due("none is left", k.x.constants() + k.x.made(), 0);
            k.function(d, 1, 0, "p0");
            k.function(other, 0, 0, "+ K c" + d + " n1 _ K c" + d + " n2 _");
            due("build", k.x.build(other), '-');
            due("constants", k.x.constants(), 0);
            due("calls", k.x.calls(), 2);
            due("the calls and the function", k.x.remove(d), 3);
            due("none is left", k.x.calls() + k.x.made(), 0);
            k.function(d, 1, 1, "p0");
            k.function(other, 0, 0, "; c" + d + " n1 _ ; c" + d + " n2 _ c" + d + " n3 _");
            due("build", k.x.build(other), '-');
            due("made", k.x.made(), 4);
            due("the function alone", k.x.remove(other), 1);
            k.function(other, 0, 0, "; c" + d + " n3 _ ; c" + d + " n2 _ c" + d + " n1 _");
            due("build", k.x.build(other), '-');
            due("the others were kept", k.x.looked(), 1);
            due("all of them", k.x.remove(d), 4);
        }
    }

    static void dropsWhatLooked() {
        Desk k = new Desk();
        k.function(1, 0, 0, "n1");
        k.function(2, 0, 0, "n1");
        due("63 calls of 1, and one of 2", k.ends(0, manyAndLast("c1 _ _", "c2 _ _", 6)), '-');
        due("with 63 of ';'", k.x.nodesLeft(), 127);
        due("an edit of 2 drops 0, too", k.function(2, 0, 0, "n1"), 2);
        due("calls", k.x.made(), 1);
        k = new Desk();
        k.function(1, 1, 1, "n1");
        k.function(2, 0, 0, "n1");
        String[] calls = new String[31];
        for (int i = 0; i < 29; i++) {
            calls[i] = "c1 n" + Math.max(i, 1) + " _";
        }
        calls[29] = "c0 _ _";
        calls[30] = "c2 _ _";
        due("calls of 30, itself included", k.ends(0, behind(calls, 0, 31)), '-');
        due("made", k.x.made(), 30);
        due("an edit of the last one drops it, too", k.function(2, 0, 0, "n1"), 2);
        k = new Desk();
        k.function(1, 1, 0, "n7");
        k.constant(5, "c1 r n3 _");
        k.constant(6, "; d5 c1 r n3 _");
        due("a call that its argument leaves", k.ends(0, "; d6 n1"), '-');
        due("is none", k.x.calls(), 0);
        due("6 looked at 5", k.constant(5, "c1 r n3 _"), 3);
        due("build", k.x.build(0), '-');
        due("but it looked at the function", k.function(1, 0, 0, "n8"), 3);
        due("build", k.x.build(0), '-');
        due("which has no argument now", k.x.numberOf(5), 8);
    }

    static void dropsNoMore() {
        Desk k = new Desk();
        k.constant(5, "n1");
        k.constant(6, "n2");
        k.function(4, 1, 0, "i p0 d5 d6");
        due("build", k.ends(0, "+ K c4 n0 _ K c4 n1 _"), '-');
        due("calls", k.x.calls(), 2);
        due("5: the constant, a call, the function", k.constant(5, "n3"), 3);
        due("calls", k.x.calls(), 1);
        due("6: the constant and the other call", k.constant(6, "n4"), 2);
        k.function(3, 0, 0, "i n0 d5 n7");
        due("build", k.x.build(3), '-');
        due("a part that was not looked at", k.constant(5, "n3"), 0);
        k.function(2, 0, 0, "n7");
        k.function(3, 0, 0, "c2 d5 d6");
        due("build", k.x.build(3), '-');
        due("arguments that were left out", k.constant(5, "n3"), 0);
        due("but with the function", k.x.remove(2), 2);
        // functions that lead to one another are dropped together
        k.function(2, 1, 0, "i p0 c3 - p0 n1 _ n7");
        k.function(3, 1, 0, "i p0 c2 - p0 n1 _ d5");
        due("build", k.x.build(2), '-');
        due("both, and the constant", k.constant(5, "n3"), 3);
        due("build", k.x.build(3), '-');
        due("both", k.function(2, 1, 0, "i p0 c3 - p0 n1 _ n7"), 2);
        due("the constant is kept", k.x.constants(), 1);
    }

    /** Parts from one on, up to another, behind one another. */
    static String behind(String[] parts, int from, int to) {
        int mid = (from + to) / 2;
        return to - from == 1 ? parts[from] : "; " + behind(parts, from, mid) + " " + behind(parts, mid, to);
    }

    /** Two to so many parts behind one another, all the same but for the last one. */
    static String manyAndLast(String part, String last, int doublings) {
        return doublings == 0 ? last
                : "; " + manyAndLast(part, part, doublings - 1) + " " + manyAndLast(part, last, doublings - 1);
    }

    static void faultsDrop() {
        says("A fault drops what it was found in, on the way to it, and made functions that lead to one of these, and nothing "
                + "else.");
        Desk k = new Desk();
        k.constant(5, "n1");
        k.constant(6, "n1");
        k.function(9, 0, 0, "; d5 K c7 n1 _");
        k.function(7, 1, 0, "p0");
        due("an earlier build", k.x.build(9), '-');
        // 1 is on the way, 2 leads to 3 that leads to 1, and 4 leads to none of these
        k.function(1, 0, 0, "; c2 _ _ ; d6 ; K c7 n2 _ c8 _ _");
        k.function(2, 0, 0, "; c3 _ _ c4 _ _");
        k.function(3, 0, 0, "c1 _ _");
        k.function(4, 0, 0, "; d5 d6");
        k.function(8, 0, 0, "d0");
        due("a fault", k.ends(0, "c1 _ _"), 'd');
        told("on the way", k.trace(), "8 1 0");
        due("4 and 9 are there", k.x.made(), 2);
        due("the constants, too", k.x.constants(), 2);
        due("both calls, too", k.x.calls(), 2);
        due("4 was made", k.x.build(4), '-');
        due("and is kept", k.x.looked(), 0);
        due("9 was built last without a fault, and then 4", k.x.run(0, 0), 'v');
        due("a run of 4", k.x.steps(), 1);
        k.function(8, 0, 0, "n8");
        due("without the fault", k.x.build(0), '-');
        due("0, 1, 2, 3 and 8", k.x.looked(), 5);
        due("made", k.x.made(), 7);
    }

    static void faultsDropThings() {
        for (int early = 0; early < 2; early++) {
            Desk k = new Desk();
            k.constant(4, "n1");
            k.constant(5, "; d4 d6");
            k.constant(6, "; d4 c1 n0 _");
            k.function(1, 1, 0, "; d4 i p0 n1 / n1 p0");
            k.function(2, 0, 0, "; d4 K c1 n1 _");
            if (early == 1) {
                due("early", k.x.build(2), '-');
            }
            due("a fault", k.ends(0, "; c2 _ _ d5"), 'z');
            told("trace", k.trace(), "21 16 15 0");
            due("what needs it is dropped", k.x.constants(), 1);
            due("the other call is kept", k.x.calls(), 1);
            due("and the function that was made", k.x.made(), 1);
            due("looked", k.x.looked(), early == 1 ? 4 : 7);
        }
    }

    static void faultsDropNothingElse() {
        says("and nothing else");
        for (int d = 0; d < 10; d++) {
            int other = (d + 1) % 10;
            int third = (d + 2) % 10;
            Desk k = new Desk();
            k.constant(d, "n7");
            k.function(other, 1, 0, "p0");
            k.function(third, 0, 0, "; d" + d + " ; c" + other + " n1 _ K c" + other + " n2 _");
            due("build", k.x.build(third), '-');
            int faulty = (d + 3) % 10;
            k.function(faulty, 0, 0, "; d" + d + " / n1 n0");
            due("dropped", k.function(other, 1, 0, "p0"), 3);
            due("and built again", k.x.build(third), '-');
            due("a fault", k.x.build(faulty), 'z');
            due("made functions", k.x.made(), 2);
            due("the constant", k.x.constants(), 1);
            due("the call", k.x.calls(), 1);
            due("run", k.x.run(0, 0), 'v');
            due("build", k.x.build(third), '-');
            due("nothing was dropped", k.x.looked(), 0);
        }
    }

    static void faultsDropWhatLeads() {
        says("and made functions that lead to one of these");
        Desk k = new Desk();
        k.function(1, 1, 1, "i p0 ; c3 _ _ ; c1 - p0 n1 _ n1 ; c3 _ _ d9");
        k.function(3, 0, 0, "; c4 _ _ n1");
        k.function(4, 0, 0, "n1");
        due("a fault in the innermost one", k.ends(0, "; c4 _ _ c1 n3 _"), 'd');
        due("what all of them lead to is kept", k.x.made(), 2);
        told("trace", k.trace(), "1 1 1 1 0");
        k.constant(9, "n1");
        due("again", k.x.build(0), '-');
        due("looked", k.x.looked(), 6);
        due("a build that is a fault ahead of all", k.x.build(9), 'd');
        due("drops nothing", k.x.made(), 7);
        due("likewise", k.x.build(1), 'u');
        due("drops nothing", k.x.made(), 7);
    }

    static void traceIsTheWay() {
        says("Its trace are the things on this way, the innermost one first: made functions, constants and calls.");
        Desk k = new Desk();
        k.function(1, 1, 1, "c2 p0 _");
        k.function(2, 1, 0, "; c9 _ _ K + n1 d5");
        k.constant(5, "K K c3 n1 n2");
        k.function(3, 2, 0, "i p0 c3 - p0 n1 e1 + p1 n1");
        k.function(9, 0, 0, "n1");
        due("build", k.ends(0, "; c9 _ _ c1 n1 _"), 't');
        told("a call of another row, a call, a constant, three functions", k.trace(), "23 23 15 2 1 0");
        due("trace", k.x.trace(), 6);
        k.function(3, 2, 0, "n1");
        due("no fault", k.x.build(0), '-');
        told("no trace", k.trace(), "");
        k.function(3, 2, 0, "n1");
        due("another fault", k.ends(0, "/ n1 n0"), 'z');
        told("this way", k.trace(), "0");
        due("ahead of all", k.x.build(5), 'd');
        told("no way", k.trace(), "");
    }

    // ---- Runs

    static void runs() {
        thirtyTwoBits();
        byWhatWasMade();
        plainly();
        twoThousand();
        fortyOutputs();
    }

    static void thirtyTwoBits() {
        says("A run works out the function that was built last without a fault, with arguments that are signed numbers of 32 "
                + "bits");
        int[] numbers = {0, 1, -1, Integer.MAX_VALUE, Integer.MIN_VALUE};
        for (int number : numbers) {
            runs("p0", number, 5, "w" + number);
            runs("p1", 5, number, "w" + number);
        }
        runs("y p0", 1, 1, "t-32");
        runs("y p1", 1, 1, "t-32");
        Desk k = new Desk();
        due("build of 0", k.ends(0, "n1"), '-');
        k.function(1, 0, 0, "n2");
        k.function(2, 0, 0, "d9");
        due("build of 1", k.x.build(1), '-');
        due("run", k.x.run(0, 0), 'v');
        due("1", k.x.result(), 2);
        due("build of 2", k.x.build(2), 'd');
        due("run", k.x.run(0, 0), 'v');
        due("1", k.x.result(), 2);
        due("build of 0", k.x.build(0), '-');
        due("run", k.x.run(0, 0), 'v');
        due("0", k.x.result(), 1);
    }

    static void byWhatWasMade() {
        says("known nodes have their values, each worked out as one node; a node that is another one by what is known counts "
                + "as that alone");
        Object[][] rows = {{"n3", 1, 1}, {"+ n1 n2", 1, 3}, {"+ * n1 n2 - n3 n4", 1, 7}, {"K + n1 n2", 1, 4}, {"d5", 1, 4},
            {"+ p0 + n1 n2", 3, 5}, {"+ p0 d5", 3, 6}, {"i n1 p0 n2", 1, 3}, {"i n0 p0 n2", 1, 3}, {"i n1 + p0 n1 n2", 3, 5},
            {"i p0 n1 n2", 3, 3}, {"C n1 p0", 1, 2}, {"C e1 p0", 1, 3}, {"C p0 n1", 2, 2}, {"; n1 p0", 1, 3}, {"; p0 n1", 3, 3},
            {"; n1 ; n2 i n1 p0 n3", 1, 7}, {"T n1", 1, 2}, {"T e1", 2, 2}, {"T p0", 2, 2}, {"p1", 1, 1}, {"v0", 1, 1}, {"s0 + n1 n2", 2, 4},
            {"L n0 p0", 2, 2}, {"r + n1 n2", 2, 4}, {"D + n1 n2", 2, 4}, {"E + n1 n2", 1, 1}, {"o + n1 n2", 2, 4}, {"c3 n1 _", 3, 5},
            {"c3 + n1 n2 _", 3, 7}, {"c3 p0 _", 3, 5}, {"k n1 t8", 1, 4}, {"k p0 t8", 3, 4}, {"y p0", 2, 2}, {"z y p0", 3, 3}, {"= p0 p0", 3, 3}};
        for (Object[] row : rows) {
            Desk k = new Desk();
            k.constant(5, "+ n1 n2");
            k.function(3, 1, 0, "; n1 p0");
            due(row[0] + " built", k.ends(1, "" + row[0]), '-');
            due(row[0] + " run", k.x.run(1, 0), 'v');
            due(row[0] + " takes", k.x.steps(), (Integer) row[1]);
            String value = k.value();
            due(row[0] + " plainly", k.x.plain(0, 1, 0), 'v');
            due(row[0] + " takes plainly", k.x.steps(), (Integer) row[2]);
            told("the same", k.value(), value);
        }
        Desk k = new Desk();
        k.function(1, 2, 2, "i p1 * p0 n2 * p0 n3");
        told("a row of known arguments", k.built("+ c1 p0 n1 c1 p0 n0", 5, 0), "w25");
        due("each by its own", k.x.steps(), 1 + 2 * 6);
        due("made", k.x.made(), 3);
    }

    static void plainly() {
        says("Plainly, a function is run by its nodes alone, and constants are worked out each time; known parameters are as "
                + "others then.");
        Desk k = new Desk();
        k.constant(5, "+ n1 n2");
        k.function(0, 0, 0, "+ d5 + d5 d5");
        due("plain", k.x.plain(0, 0, 0), 'v');
        due("three times", k.x.steps(), 5 + 3 * 3);
        due("nothing is kept", k.x.constants(), 0);
        due("nothing is made", k.x.made(), 0);
        due("looked", k.x.looked(), 0);
        k.function(0, 2, 3, "- p0 p1");
        due("known parameters", k.x.plain(0, 3, 5), 'v');
        told("are as others", k.value(), "w-2");
        k.function(1, 1, 1, "n1");
        told("an argument that is not known", k.plain("c1 p0 _", 0, 0), "n1");
        told("'K' of it", k.plain("K p0", 4, 0), "w4");
        told("'K' that puts out", k.plain("K o p0", 4, 0), "-0");
        told("4", k.outputs(), "4");
        told("an edit counts at once", k.plain("d5", 0, 0), "n3");
        k.constant(5, "n9");
        told("an edit counts at once", k.plain("d5", 0, 0), "n9");
        k.function(2, 1, 1, "+ p0 n1");
        told("a run by what was made", k.built("c2 n2 _", 0, 0), "n3");
        told("changes nothing for a plain one", k.plain("K + p0 n1", 7, 0), "w8");
        told("nor in a call", k.plain("c2 p0 _", 7, 0), "w8");
        k.function(0, 1, 0, "; o p0 / n1 n0");
        due("an unbuilt one with a fault", k.x.build(0), 'z');
        due("is run", k.x.plain(0, 4, 0), 'z');
        told("up to the fault", k.outputs(), "4");
    }

    static void twoThousand() {
        says("or with 'l' if more than 2000 nodes would be worked out");
        for (int nodes = 1999; nodes <= 2002; nodes++) {
            boolean holds = nodes <= 2000;
            Desk k = new Desk();
            String value = "w" + rounds(nodes);
            told(nodes + " nodes plainly", k.plain(nodesOfRun(nodes), rounds(nodes), 0), holds ? value : "l");
            due("steps", k.x.steps(), Math.min(nodes, 2000));
            told(nodes + " nodes", k.built(nodesOfRun(nodes), rounds(nodes), 0), holds ? value : "l");
            due("steps", k.x.steps(), Math.min(nodes, 2000));
            if (!holds) {
                refused("no value", NONE, k.x::resultKind);
            }
            // in calls, constants and parts that are put off, too
            k.function(1, 2, 0, nodesOfRun(nodes - 3));
            told(nodes + " with a call plainly", k.plain("c1 p0 p1", rounds(nodes - 3), 0), holds ? "w" + rounds(nodes - 3) : "l");
            told(nodes + " with a call", k.built("c1 p0 p1", rounds(nodes - 3), 0), holds ? "w" + rounds(nodes - 3) : "l");
            k.constant(5, nodes(nodes - 1));
            told(nodes + " with a constant plainly", k.plain("d5", 0, 0), holds ? "n" + rounds(nodes - 1) : "l");
            told(nodes + " put off", k.plain("; D " + nodesOfRun(nodes - 3) + " n7", rounds(nodes - 3), 0), holds ? "n7" : "l");
            told(nodes + " put off", k.built("; D " + nodesOfRun(nodes - 3) + " n7", rounds(nodes - 3), 0), holds ? "n7" : "l");
        }
        Desk k = new Desk();
        told("for ever", k.plain("L n1 n1", 0, 0), "l");
        due("steps", k.x.steps(), 2000);
        told("for ever", k.built("L n1 n1", 0, 0), "l");
        due("steps", k.x.steps(), 2000);
        told("it puts off for ever", k.plain("L n1 D n1", 0, 0), "l");
        told("for ever in a build", k.kept("L n1 n1"), "q");
        due("worked", k.x.worked(), 500);
        says("or more than 20 calls are within one another");
        k.function(1, 1, 0, "i p0 c1 - p0 n1 _ n7");
        told("20 calls", k.built("c1 p0 _", 18, 0), "n7");
        told("21 calls", k.built("c1 p0 _", 19, 0), "l");
        refused("no value", NONE, k.x::result);
        told("20 calls", k.plain("c1 p0 _", 18, 0), "n7");
        told("21 calls", k.plain("c1 p0 _", 19, 0), "l");
        refused("no value", NONE, k.x::result);
    }

    static void fortyOutputs() {
        says("At most 40 values are put out; others are counted alone.");
        Desk k = new Desk();
        String loop = "; s0 * p0 n0 ; L < v0 p0 ; o v0 s0 + v0 n1 v0";
        for (int count : new int[] {0, 1, 39, 40, 41, 100}) {
            for (int turn = 0; turn < 2; turn++) {
                told(count + " values", turn == 0 ? k.plain(loop, count, 0) : k.built(loop, count, 0), "w" + count);
                due("outputs", k.x.outputs(), count);
                for (int i : new int[] {0, 1, 38, 39, 40, 41, 99, 100, -1, Integer.MIN_VALUE, Integer.MAX_VALUE}) {
                    if (i >= 0 && i < count && i < 40) {
                        due("output " + i, k.x.output(i), i);
                    } else {
                        refused("output " + i + " of " + count, INDEX, () -> k.x.output(i));
                    }
                }
            }
        }
        told("values of all kinds", k.plain("; o n-1 ; o w-3:-8 ; o f1 ; o F ; o t-5 ; o e7 o v0", 0, 0), "-0");
        told("their numbers", k.outputs(), "-1 -3 1065353216 99 -5 7 0");
    }

    // ---- Exceptions

    /** All that can be asked of a bench, as one text. */
    static String asked(Desk k) {
        ComptimeBench x = k.x;
        StringBuilder all = new StringBuilder();
        all.append(k.trace()).append('/').append(x.made()).append('/').append(x.constants()).append('/').append(x.calls());
        all.append('/').append(x.looked()).append('/').append(x.worked()).append('/').append(x.nodesLeft());
        for (int d = 0; d < 10; d++) {
            try {
                all.append('/');
                all.append(x.kindOf(d)).append(x.numberOf(d));
            } catch (NoSuchElementException e) {
                all.append("none");
            }
        }
        try {
            all.append('/');
            all.append(x.resultKind()).append(x.result());
        } catch (NoSuchElementException e) {
            all.append("none");
        }
        all.append('/').append(x.outputs()).append('/').append(k.outputs()).append('/').append(x.steps());
        try {
            all.append('/');
            all.append(x.valueShare());
        } catch (ArithmeticException e) {
            all.append("none");
        }
        try {
            all.append('/');
            all.append(x.meanLeft());
        } catch (ArithmeticException e) {
            all.append("none");
        }
        return all.append('/').append(x.isWhole()).toString();
    }

    static void exceptions() {
        says("A method that throws an exception changes nothing.");
        Desk k = new Desk();
        k.constant(5, "+ n1 n2");
        k.function(1, 1, 1, "; p1 + p0 d5");
        k.function(7, 1, 1, "p0");
        due("build", k.ends(1, "; o p0 ; K c7 n3 _ c1 n4 _"), '-');
        k.function(2, 0, 0, "K d9");
        due("a fault", k.x.build(2), 'd');
        due("run", k.x.run(6, 0), 'v');
        int nodes = k.tree("e9") + 1;
        refuseAll(k, asked(k));
        due("the number of nodes is as it was", k.x.node('F', 0, 0, 0), nodes);
        due("the declarations are as they were", k.x.build(0), '-');
        due("nothing is looked at", k.x.looked(), 0);
        due("what was built is", k.x.run(6, 0), 'v');
        told("the same", k.value(), "n7");
        due("the function 1 may be called", k.x.plain(0, 6, 0), 'v');
        refuseAll(new Desk(), asked(new Desk()));
        Desk other = new Desk();
        due("a fault", other.x.plain(0, 0, 0), 'd');
        due("ahead of all", other.x.build(0), 'd');
        refuseAll(other, asked(other));
        says("If several exceptions apply, the exception that is listed first is thrown.");
        Desk full = new Desk();
        for (int i = 0; i < 220; i++) {
            full.x.node('n', i, 0, 0);
        }
        refused("a node too many", STATE, () -> full.x.node('n', 0, 0, 0));
        refused("no such kind", ILLEGAL, () -> full.x.node('?', 0, 0, 0));
        refused("no such error", ILLEGAL, () -> full.x.node('e', 10, 0, 0));
        refused("no such part", ILLEGAL, () -> full.x.node('y', 220, 0, 0));
        Desk deep = new Desk();
        deep.tree(times(9, "r") + "n1");
        refused("too deep", STATE, () -> deep.x.node('+', 9, 0, 0));
        refused("too deep, and no such part", ILLEGAL, () -> deep.x.node('+', 9, 10, 0));
        refused("too deep, and out of range", ILLEGAL, () -> deep.x.node('s', 4, 9, 0));
        refused("too deep, and out of range", ILLEGAL, () -> deep.x.node('c', 10, 9, 9));
        for (int no : NO_DECLARATION) {
            refused("remove " + no, ILLEGAL, () -> full.x.remove(no));
            refused("kindOf " + no, ILLEGAL, () -> full.x.kindOf(no));
            refused("numberOf " + no, ILLEGAL, () -> full.x.numberOf(no));
        }
    }

    /** Calls that are refused in each state, behind each of which all that can be asked is as it was. */
    static void refuseAll(Desk k, String before) {
        ComptimeBench x = k.x;
        refused("node", ILLEGAL, () -> x.node('?', 0, 0, 0));
        refused("node", ILLEGAL, () -> x.node('e', 10, 0, 0));
        refused("node", ILLEGAL, () -> x.node('+', 0, 220, 0));
        refused("constant", ILLEGAL, () -> x.constant(10, 0));
        refused("constant", ILLEGAL, () -> x.constant(-1, 0));
        refused("constant", ILLEGAL, () -> x.constant(5, -1));
        refused("constant", ILLEGAL, () -> x.constant(5, 219));
        refused("function", ILLEGAL, () -> x.function(10, 0, 0, 0));
        refused("function", ILLEGAL, () -> x.function(0, 0, 0, 219));
        refused("function", ILLEGAL, () -> x.function(0, 0, 0, -1));
        refused("function", ILLEGAL, () -> x.function(0, 3, 0, 0));
        refused("function", ILLEGAL, () -> x.function(0, -1, 0, 0));
        refused("function", ILLEGAL, () -> x.function(0, 1, 2, 0));
        refused("remove", ILLEGAL, () -> x.remove(10));
        refused("remove", ILLEGAL, () -> x.remove(-1));
        refused("remove", NONE, () -> x.remove(3));
        refused("build", ILLEGAL, () -> x.build(10));
        refused("build", ILLEGAL, () -> x.build(-1));
        refused("traceAt", INDEX, () -> x.traceAt(-1));
        refused("traceAt", INDEX, () -> x.traceAt(x.trace()));
        refused("kindOf", ILLEGAL, () -> x.kindOf(10));
        refused("kindOf", NONE, () -> x.kindOf(3));
        refused("numberOf", ILLEGAL, () -> x.numberOf(-1));
        refused("numberOf", NONE, () -> x.numberOf(3));
        refused("plain", ILLEGAL, () -> x.plain(10, 0, 0));
        refused("plain", ILLEGAL, () -> x.plain(-1, 0, 0));
        refused("output", INDEX, () -> x.output(-1));
        refused("output", INDEX, () -> x.output(x.outputs()));
        told("all that can be asked", asked(k), before);
    }

    // ---- the promises

    static void promises() {
        newObject();
        declares();
        declaresFunctions();
        removes();
        buildsAFunction();
        traces();
        counts();
        looked();
        worked();
        nodesThatAreLeft();
        constantsThatAreKept();
        runsWhatWasBuilt();
        runsWhatWasBuiltLast();
        runsPlainly();
        results();
        outputs();
        figures();
        whole();
    }

    static void newObject() {
        says("Promise 1: Creates a language without nodes and declarations.");
        Desk k = new Desk();
        StringBuilder none = new StringBuilder("/0/0/0/0/0/0");
        for (int i = 0; i < 11; i++) {
            none.append("/none");
        }
        told("nothing is there", asked(k), none + "/0//0/none/none/true");
        refused("run", STATE, () -> k.x.run(0, 0));
        refused("the first node is not there", ILLEGAL, () -> k.x.constant(0, 0));
        refused("the first node is not there", ILLEGAL, () -> k.x.function(0, 0, 0, 0));
        for (int d = 0; d < 10; d++) {
            int at = d;
            refused("remove", NONE, () -> k.x.remove(at));
            due("build", k.x.build(d), 'd');
            due("plain", k.x.plain(d, 0, 0), 'd');
        }
        due("the first node", k.x.node('n', 0, 0, 0), 0);
        Desk other = new Desk();
        refused("another object has none", ILLEGAL, () -> other.x.constant(0, 0));
    }

    static void declares() {
        says("Promise 3: Throws IllegalArgumentException if there is no such number or node");
        Desk k = new Desk();
        int node = k.tree("n7");
        for (int no : NO_DECLARATION) {
            refused("constant " + no, ILLEGAL, () -> k.x.constant(no, node));
            refused("function " + no, ILLEGAL, () -> k.x.function(no, 0, 0, node));
        }
        for (int no : new int[] {-1, node + 1, 219, 220, Integer.MIN_VALUE, Integer.MAX_VALUE}) {
            refused("constant of node " + no, ILLEGAL, () -> k.x.constant(0, no));
            refused("function of node " + no, ILLEGAL, () -> k.x.function(0, 0, 0, no));
        }
        for (int d = 0; d < 10; d++) {
            due("constant " + d, k.x.constant(d, node), 0);
            due("function " + d, k.x.function(d, 0, 0, node), 0);
        }
        says("Returns how many kept things are dropped.");
        due("build", k.x.build(3), '-');
        due("nothing of it", k.x.constant(4, node), 0);
        due("the function", k.x.constant(3, node), 1);
        due("once", k.x.constant(3, node), 0);
        k.function(2, 0, 0, "; d3 c1 _ _");
        due("build", k.x.build(2), '-');
        due("a function on what it calls", k.x.function(1, 0, 0, node), 2);
        due("the constant alone", k.x.function(3, 0, 0, node), 1);
        due("nothing is left", k.x.made() + k.x.constants() + k.x.calls(), 0);
    }

    static void declaresFunctions() {
        Desk k = new Desk();
        int node = k.tree("n7");
        says("Promise 4: or one that is told is out of range, or a parameter is known that there is not");
        for (int parameters = -1; parameters <= 3; parameters++) {
            for (int known = -1; known <= 4; known++) {
                int p = parameters;
                int of = known;
                if (p >= 0 && p <= 2 && of >= 0 && of < 1 << p) {
                    due(p + " parameters, known " + of, k.x.function(0, p, of, node), 0);
                    due("build", k.x.build(0), of == 0 ? '-' : 'u');
                    k.x.remove(0);
                } else {
                    refused(p + " parameters, known " + of, ILLEGAL, () -> k.x.function(0, p, of, node));
                }
            }
        }
        for (int no : new int[] {Integer.MIN_VALUE, Integer.MAX_VALUE, 32, 33, 34, -30, -31}) {
            refused(no + " parameters", ILLEGAL, () -> k.x.function(0, no, 0, node));
            refused("known " + no, ILLEGAL, () -> k.x.function(0, 2, no, node));
        }
        says("which are known, the sum of 1 for the first one and 2 for the second one");
        for (int known = 0; known < 4; known++) {
            k.function(1, 2, known, "; s0 p0 p1");
            due("build", k.ends(0, "c1 n5 n6"), '-');
            // function 0 has the call, and function 1 ';', 's' and the parameters that are not known
            due("nodes left", k.x.nodesLeft(), 5 - (known & 1) - (known >> 1));
        }
    }

    static void removes() {
        says("Promise 5: Throws NoSuchElementException if it is not there");
        Desk k = new Desk();
        k.constant(5, "n1");
        k.function(6, 0, 0, "n1");
        for (int no : NO_DECLARATION) {
            refused("remove " + no, ILLEGAL, () -> k.x.remove(no));
        }
        refused("not there", NONE, () -> k.x.remove(0));
        refused("not there", NONE, () -> k.x.remove(9));
        due("build", k.ends(0, "; d5 c6 _ _"), '-');
        due("the function that called it, and it", k.x.remove(6), 2);
        refused("gone", NONE, () -> k.x.remove(6));
        due("the constant", k.x.remove(5), 1);
        refused("gone", NONE, () -> k.x.remove(5));
        due("dropped already", k.x.remove(0), 0);
        refused("gone", NONE, () -> k.x.remove(0));
        due("none of them is there", k.x.build(0), 'd');
        due("one that is told anew", k.constant(5, "n1"), 0);
        due("may be removed again", k.x.remove(5), 0);
    }

    static void buildsAFunction() {
        says("Promise 6: Returns '-', or the fault: 'd' if it is no function, 'u' if it has known parameters.");
        Desk k = new Desk();
        for (int no : NO_DECLARATION) {
            refused("build " + no, ILLEGAL, () -> k.x.build(no));
        }
        due("not there", k.x.build(0), 'd');
        k.constant(0, "n1");
        due("a constant", k.x.build(0), 'd');
        for (int parameters = 0; parameters <= 2; parameters++) {
            for (int known = 0; known < 1 << parameters; known++) {
                k.function(9, parameters, known, "n1");
                due("known " + known, k.x.build(9), known == 0 ? '-' : 'u');
                due("trace", k.x.trace(), 0);
                due("looked", k.x.looked(), known == 0 ? 1 : 0);
            }
        }
        k.function(9, 1, 1, "/ n1 n0");
        due("'u' ahead of what is in it", k.x.build(9), 'u');
        told("a fault of the build", k.built("/ n1 n0", 0, 0), "!z");
        told("a fault of the run is none", k.built("/ n1 p0", 0, 0), "z");
    }

    static void traces() {
        says("Promise 7: Returns the number of things, 0 without a fault, or if it was found ahead of all.");
        Desk k = new Desk();
        due("no build", k.x.trace(), 0);
        due("ahead of all", k.x.build(0), 'd');
        due("trace", k.x.trace(), 0);
        told("a fault", k.built("/ n1 n0", 0, 0), "!z");
        due("trace", k.x.trace(), 1);
        k.x.plain(0, 0, 0);
        due("a run does not change it", k.x.trace(), 1);
        k.constant(3, "n1");
        due("nor an edit", k.x.trace(), 1);
        told("without a fault", k.built("n1", 0, 0), "n1");
        due("trace", k.x.trace(), 0);
        told("a fault", k.built("/ n1 n0", 0, 0), "!z");
        k.function(0, 1, 1, "n1");
        due("ahead of all", k.x.build(0), 'u');
        due("trace", k.x.trace(), 0);
        says("Promise 8: Returns its declaration, plus 10 for a constant, and 20 for a call that is worked out.");
        for (int d = 0; d < 10; d++) {
            k = new Desk();
            int other = (d + 1) % 10;
            k.constant(d, "/ n1 n0");
            k.function(other, 0, 0, "d" + d);
            due("build", k.x.build(other), 'z');
            told("a constant", k.trace(), 10 + d + " " + other);
            k.function(d, 0, 0, "/ n1 n0");
            k.function(other, 0, 0, "K c" + d + " _ _");
            due("build", k.x.build(other), 'z');
            told("a call", k.trace(), 20 + d + " " + other);
            k.function(other, 0, 0, "c" + d + " _ _");
            due("build", k.x.build(other), 'z');
            told("a function", k.trace(), d + " " + other);
            Desk at = k;
            for (int index : new int[] {-1, 2, 3, Integer.MIN_VALUE, Integer.MAX_VALUE}) {
                refused("traceAt " + index, INDEX, () -> at.x.traceAt(index));
            }
        }
    }

    static void counts() {
        says("Promise 9: Returns how many functions are made now, each counted for each row of known arguments.");
        Desk k = new Desk();
        k.function(1, 2, 1, "n1");
        due("build", k.ends(0, "; c1 n1 n1 ; c1 n1 n2 ; c1 n2 n1 ; c1 w1:8 n1 c1 w1:9 n1"), '-');
        due("made", k.x.made(), 5);
        k.function(1, 2, 3, "n1");
        due("dropped", k.x.made(), 0);
        due("build", k.x.build(0), '-');
        due("made", k.x.made(), 6);
        says("Promise 10: Returns how many constants are kept now.");
        k = new Desk();
        for (int d = 1; d < 10; d++) {
            k.constant(d, d == 1 ? "n1" : "+ n1 d" + (d - 1));
        }
        due("none", k.x.constants(), 0);
        due("build", k.ends(0, "d9"), '-');
        due("all", k.x.constants(), 9);
        due("an edit in the midst", k.constant(5, "n1"), 6);
        due("four", k.x.constants(), 4);
        says("Promise 11: Returns how many calls are kept now that were worked out as a build went on.");
        k = new Desk();
        k.function(1, 1, 0, "p0");
        due("a call of a made function", k.ends(0, "c1 n1 _"), '-');
        due("is none", k.x.calls(), 0);
        due("a run", k.x.run(0, 0), 'v');
        due("a call in 'K' in a run", k.x.plain(0, 0, 0), 'v');
        due("is none", k.x.calls(), 0);
        due("two calls in 'K'", k.ends(0, "K + c1 n1 _ c1 c1 n2 _ _"), '-');
        due("are two", k.x.calls(), 2);
        due("an edit of both functions", k.function(1, 1, 0, "p0"), 4);
        due("drops them", k.x.calls(), 0);
    }

    static void looked() {
        says("Promise 12: Returns how many things the last build began to make or to work out.");
        Desk k = new Desk();
        k.function(1, 1, 0, "p0");
        k.constant(5, "n1");
        due("a function, two calls, a constant", k.ends(0, "; d5 K ; d5 + c1 n1 _ c1 c1 n2 _ _"), '-');
        due("looked", k.x.looked(), 4);
        due("up to a fault", k.ends(0, "; c1 n1 _ ; K c1 n4 _ / n1 n0"), 'z');
        due("looked", k.x.looked(), 3);
        due("nothing", k.x.build(5), 'd');
        due("looked", k.x.looked(), 0);
    }

    static void worked() {
        says("Promise 13: Returns how many nodes were worked out in the last build for 'K', constants and calls, kept ones "
                + "left out.");
        Desk k = new Desk();
        k.constant(5, "+ n1 n2");
        k.function(1, 1, 0, "+ p0 d5");
        due("build", k.ends(0, "; K ; d5 c1 n1 _ ; + n1 n2 ; d5 K n1"), '-');
        due("5 of 'K', 3 of the constant, 3 of the call, 1 of 'K'", k.x.worked(), 4 + 3 + 3 + 1);
        k.function(2, 0, 0, "K ; d5 c1 n1 _");
        due("build", k.x.build(2), '-');
        due("kept ones left out", k.x.worked(), 4);
        due("again", k.x.build(2), '-');
        due("nothing", k.x.worked(), 0);
        k.x.plain(2, 0, 0);
        due("a run does not count", k.x.worked(), 0);
        due("up to a fault", k.ends(0, "K ; d5 / n1 n0"), 'z');
        due("worked", k.x.worked(), 5);
        due("ahead of all", k.x.build(5), 'd');
        due("worked", k.x.worked(), 0);
    }

    static void nodesThatAreLeft() {
        says("Promise 14: Returns how many nodes that are not known all made functions have, one that stands in several places "
                + "counted for each.");
        Desk k = new Desk();
        due("none is made", k.x.nodesLeft(), 0);
        due("p0 once", k.ends(1, "p0"), '-');
        due("left", k.x.nodesLeft(), 1);
        due("doubled", k.ends(1, "+ p0 p0"), '-');
        due("left", k.x.nodesLeft(), 3);
        due("and again", k.ends(1, "+ + p0 p0 + p0 p0"), '-');
        due("left", k.x.nodesLeft(), 7);
        due("512 places", k.ends(1, doubled("p0", 8)), '-');
        due("left", k.x.nodesLeft(), 511);
        k.function(1, 2, 1, "+ p0 p1");
        due("for each made function", k.ends(1, "; c1 n1 p0 ; c1 n2 p0 c1 n1 n2"), '-');
        due("left", k.x.nodesLeft(), 2 + 3 + 2 + 2 * 2);
        k.x.remove(1);
        due("none is left", k.x.nodesLeft(), 0);
        k.function(1, 1, 0, "n1");
        due("arguments that are left out do not count", k.ends(2, "c1 p0 p1"), '-');
        due("left", k.x.nodesLeft(), 2);
        due("nor what is in 'K'", k.ends(2, "K ; s0 n1 + v0 v0"), '-');
        due("left", k.x.nodesLeft(), 0);
    }

    static String doubled(String part, int times) {
        return times == 0 ? part : "+ " + doubled(part, times - 1) + " " + doubled(part, times - 1);
    }

    static void constantsThatAreKept() {
        says("Promise 15: Returns 'n' a free number, 'w' one of a whole type, 'f' a float, 't' a type, 'e' an error, '-' "
                + "nothing.");
        says("Promise 16: Returns the number, the error, or the bits of a float; of a type, its bits, less than 0 if it is "
                + "signed, 99 for floats and 0 for free numbers; 0 for nothing.");
        String[][] rows = {{"n0", "n0"}, {"N1099511627776", "n1099511627776"}, {"N-1099511627776", "n-1099511627776"},
            {"w4294967295:32", "w4294967295"}, {"w-2147483648:-32", "w-2147483648"}, {"f1", "f1065353216"}, {"f-1", "f-1082130432"},
            {"* f0 f-1", "f-2147483648"}, {"t1", "t1"}, {"t-32", "t-32"}, {"F", "t99"}, {"free", "t0"}, {"e0", "e0"}, {"e9", "e9"},
            {"v0", "-0"}};
        for (String[] row : rows) {
            Desk k = new Desk();
            told(row[0], k.kept(row[0]), row[1]);
            told("of a run", k.plain(row[0], 0, 0), row[1]);
        }
        says("Promises 15 and 16: Throws NoSuchElementException if there is no such constant kept");
        Desk k = new Desk();
        for (int no : NO_DECLARATION) {
            refused("kindOf " + no, ILLEGAL, () -> k.x.kindOf(no));
            refused("numberOf " + no, ILLEGAL, () -> k.x.numberOf(no));
        }
        k.constant(9, "n1");
        k.function(1, 0, 0, "n7");
        refuseKept(k, 9, "told, and not kept yet");
        due("build", k.ends(0, "; d9 K c1 _ _"), '-');
        due("kept", k.x.kindOf(9), 'n');
        due("kept", k.x.numberOf(9), 1);
        refuseKept(k, 0, "a made function");
        refuseKept(k, 1, "a call");
        refuseKept(k, 8, "not there");
        k.x.plain(0, 0, 0);
        due("still kept", k.x.numberOf(9), 1);
        k.constant(9, "n2");
        refuseKept(k, 9, "told anew");
        due("build", k.x.build(0), '-');
        due("kept", k.x.numberOf(9), 2);
        k.x.remove(9);
        refuseKept(k, 9, "gone");
        k.constant(9, "n3");
        due("build", k.ends(0, "; d9 / n1 n0"), 'z');
        due("kept behind a fault that is not its own", k.x.numberOf(9), 3);
        k.constant(9, "/ n1 n0");
        due("build", k.ends(0, "d9"), 'z');
        refuseKept(k, 9, "a fault");
    }

    static void refuseKept(Desk k, int declaration, String what) {
        refused(what, NONE, () -> k.x.kindOf(declaration));
        refused(what, NONE, () -> k.x.numberOf(declaration));
    }

    static void runsWhatWasBuilt() {
        says("Promise 17: Throws IllegalStateException if nothing was built without a fault, or an edit has dropped something "
                + "of it since");
        Desk k = new Desk();
        refused("nothing was built", STATE, () -> k.x.run(0, 0));
        due("a fault", k.ends(0, "/ n1 n0"), 'z');
        refused("not without a fault", STATE, () -> k.x.run(0, 0));
        k.constant(5, "n5");
        k.constant(6, "n6");
        k.function(1, 1, 1, "+ p0 d5");
        k.function(2, 1, 0, "p0");
        String body = "; K c2 n1 _ c1 n2 _";
        due("build", k.ends(0, body), '-');
        due("run", k.x.run(0, 0), 'v');
        told("result", k.value(), "n7");
        int[] of = {0, 1, 2, 5};
        for (int d : of) {
            due("an edit of 6", k.constant(6, "n6"), 0);
            due("an edit of what is not there", k.constant(7, "n6"), 0);
            due("drops nothing of it", k.x.run(0, 0), 'v');
            due("a build of another one that is a fault", k.x.build(6), 'd');
            due("drops nothing of it", k.x.run(0, 0), 'v');
            if (d == 0) {
                k.function(0, 0, 0, body);
            } else if (d == 1) {
                k.function(1, 1, 1, "+ p0 d5");
            } else if (d == 2) {
                k.function(2, 1, 0, "p0");
            } else {
                k.constant(5, "n5");
            }
            refused("an edit of " + d, STATE, () -> k.x.run(0, 0));
            due("a fault", k.x.build(6), 'd');
            refused("is no build", STATE, () -> k.x.run(0, 0));
            due("build", k.x.build(0), '-');
            due("run", k.x.run(0, 0), 'v');
        }
    }

    static void runsWhatWasBuiltLast() {
        Desk k = new Desk();
        due("build", k.ends(0, "n1"), '-');
        k.function(3, 0, 0, "n3");
        due("another build", k.x.build(3), '-');
        due("run", k.x.run(0, 0), 'v');
        told("that one", k.value(), "n3");
        k.function(0, 0, 0, "n1");
        due("an edit of the one before", k.x.run(0, 0), 'v');
        k.x.remove(3);
        refused("an edit of it", STATE, () -> k.x.run(0, 0));
        says("Promise 17: the first argument, of no meaning if there is none");
        told("without parameters", k.built("n1", 5, 6), "n1");
        for (int parameters = 0; parameters <= 2; parameters++) {
            due("build", k.ends(parameters, "; s0 p0 ; s1 p1 v0"), '-');
            due("run", k.x.run(5, 6), 'v');
            told("first", k.value(), parameters > 0 ? "w5" : "-0");
            due("build", k.ends(parameters, "; s0 p0 ; s1 p1 v1"), '-');
            due("run", k.x.run(5, 6), 'v');
            told("second", k.value(), parameters > 1 ? "w6" : "-0");
        }
    }

    static void runsPlainly() {
        says("Promise 18: Returns 'v', or the fault: 'd' if it is no function.");
        Desk k = new Desk();
        for (int no : NO_DECLARATION) {
            refused("plain " + no, ILLEGAL, () -> k.x.plain(no, 0, 0));
        }
        k.constant(5, "n5");
        k.function(6, 2, 3, "p1");
        due("not there", k.x.plain(0, 0, 0), 'd');
        due("not there", k.x.plain(9, 0, 0), 'd');
        due("a constant", k.x.plain(5, 0, 0), 'd');
        due("a function", k.x.plain(6, 1, 2), 'v');
        told("of known parameters", k.value(), "w2");
        due("a fault", k.x.plain(5, 1, 2), 'd');
        refused("no value", NONE, k.x::result);
        due("no nodes", k.x.steps(), 0);
        for (int parameters = 0; parameters <= 2; parameters++) {
            k.function(0, parameters, 0, "p0");
            due("plain", k.x.plain(0, 5, 6), 'v');
            told("first", k.value(), parameters > 0 ? "w5" : "-0");
            k.function(0, parameters, 0, "p1");
            due("plain", k.x.plain(0, 5, 6), 'v');
            told("second", k.value(), parameters > 1 ? "w6" : "-0");
        }
        String[][] faults = {{"/ n1 n0", "z"}, {"+ e1 n1", "t"}, {"d9", "d"}, {"w2:1", "c"}, {"+ w1:1 w1:1", "o"}, {"L n1 n1", "l"}};
        for (String[] fault : faults) {
            told(fault[0], k.plain(fault[0], 0, 0), fault[1]);
        }
    }

    static void results() {
        says("Promises 19 and 20: Throws NoSuchElementException if there was no run, or it did not end with a value");
        Desk k = new Desk();
        refuseResult(k, "no run");
        k.function(1, 0, 0, "n1");
        due("a build is none", k.x.build(1), '-');
        refuseResult(k, "no run");
        due("a run", k.x.run(0, 0), 'v');
        told("has a value", k.value(), "n1");
        due("another build", k.x.build(1), '-');
        told("keeps it", k.value(), "n1");
        due("an edit", k.function(1, 0, 0, "e2"), 1);
        told("keeps it", k.value(), "n1");
        refused("a run that is refused", STATE, () -> k.x.run(0, 0));
        told("keeps it", k.value(), "n1");
        due("a fault", k.x.plain(9, 0, 0), 'd');
        refuseResult(k, "a fault");
        due("an error is a value", k.x.plain(1, 0, 0), 'v');
        told("an error", k.value(), "e2");
        told("'l'", k.plain("L n1 n1", 0, 0), "l");
        refuseResult(k, "'l'");
        told("nothing is a value", k.plain("v0", 0, 0), "-0");
        told("a fault", k.plain("/ n1 n0", 0, 0), "z");
        refuseResult(k, "'z'");
    }

    static void outputs() {
        says("Promise 21: Returns how many values the last run put out.");
        Desk k = new Desk();
        due("none", new Desk().x.outputs(), 0);
        told("two", k.plain("; o n1 o n2", 0, 0), "-0");
        due("outputs", k.x.outputs(), 2);
        due("a build", k.ends(0, "o n1"), '-');
        due("is no run", k.x.outputs(), 2);
        due("a run", k.x.run(0, 0), 'v');
        due("outputs", k.x.outputs(), 1);
        due("a fault", k.x.plain(9, 0, 0), 'd');
        due("outputs", k.x.outputs(), 0);
        told("up to a fault", k.plain("; o n1 ; o n2 / n1 n0", 0, 0), "z");
        due("outputs", k.x.outputs(), 2);
        says("Promise 22: Throws IndexOutOfBoundsException if there is no such value, or it is counted alone");
        due("the last one", k.x.output(1), 2);
        for (int index : new int[] {-1, 2, 3, 39, 40, Integer.MIN_VALUE, Integer.MAX_VALUE}) {
            refused("output " + index, INDEX, () -> k.x.output(index));
        }
        told("fewer than ahead", k.plain("o n7", 0, 0), "-0");
        refused("of the run ahead", INDEX, () -> k.x.output(1));
        says("Promise 23: Returns how many nodes the last run worked out.");
        due("none", new Desk().x.steps(), 0);
        told("up to a fault", k.plain("; n1 / n1 n0", 0, 0), "z");
        due("steps", k.x.steps(), 5);
        told("a call that is too deep", k.plain("; n1 c0 _ _", 0, 0), "l");
        due("steps", k.x.steps(), 60);
        due("a build", k.x.build(0), '-');
        due("is no run", k.x.steps(), 60);
    }

    static void refuseResult(Desk k, String what) {
        refused(what, NONE, k.x::resultKind);
        refused(what, NONE, k.x::result);
    }

    static void figures() {
        says("Promise 24: Returns their number divided by that of all runs, both converted to float.");
        Desk k = new Desk();
        refused("no runs", ARITHMETIC, () -> (long) k.x.valueShare());
        k.function(0, 1, 0, "/ n6 p0");
        due("build", k.x.build(0), '-');
        refused("a build is no run", ARITHMETIC, () -> (long) k.x.valueShare());
        int values = 0;
        for (int all = 1; all <= 12; all++) {
            boolean value = all % 3 != 1;
            values += value ? 1 : 0;
            due("a run", all % 2 == 0 ? k.x.run(value ? 2 : 0, 0) : k.x.plain(0, value ? 2 : 0, 0), value ? 'v' : 'z');
            due("share", Float.floatToIntBits(k.x.valueShare()), Float.floatToIntBits((float) values / (float) all));
        }
        k.x.remove(0);
        refused("a run that is refused", STATE, () -> k.x.run(0, 0));
        due("does not count", Float.floatToIntBits(k.x.valueShare()), Float.floatToIntBits(8f / 12f));
        says("Promise 25: Returns the number of these nodes divided by that of made functions, both converted to double.");
        Desk d = new Desk();
        refused("none is made", ARITHMETIC, () -> (long) d.x.meanLeft());
        due("a fault", d.ends(0, "/ n1 n0"), 'z');
        refused("none is made", ARITHMETIC, () -> (long) d.x.meanLeft());
        due("no node is left", d.ends(0, "n1"), '-');
        due("0 of 1", Double.doubleToLongBits(d.x.meanLeft()), 0);
        d.function(1, 0, 0, "v0");
        d.function(2, 0, 0, "n1");
        due("build", d.ends(0, "; c1 _ _ ; c2 _ _ n1"), '-');
        due("5 of 3", Double.doubleToLongBits(d.x.meanLeft()), Double.doubleToLongBits(5.0 / 3.0));
        d.x.remove(2);
        due("1 of 1", Double.doubleToLongBits(d.x.meanLeft()), Double.doubleToLongBits(1.0));
        d.x.remove(1);
        refused("none is made", ARITHMETIC, () -> (long) d.x.meanLeft());
    }

    static void whole() {
        says("Promise 26: Checks whether a build from nothing of the function that was built last without a fault ends without "
                + "one, too");
        for (int d = 0; d < 10; d++) {
            Desk k = new Desk();
            int other = (d + 1) % 10;
            for (int turn = 0; turn < 3; turn++) {
                k.constant(d, "n" + turn);
                k.function(other, 1, 0, "+ d" + d + " p0");
                due("build", k.x.build(other), '-');
                due("a constant", k.x.isWhole() ? 1 : 0, 1);
                due("run", k.x.run(5, 0), 'v');
                due("with this value", k.x.result(), 5 + turn);
            }
            for (int turn = 0; turn < 3; turn++) {
                k.function(d, 1, 1, "+ p0 n" + turn);
                k.function(other, 0, 0, "; K c" + d + " n1 _ c" + d + " n2 _");
                due("build", k.x.build(other), '-');
                due("a call and a function", k.x.isWhole() ? 1 : 0, 1);
                due("run", k.x.run(0, 0), 'v');
                due("with this value", k.x.result(), 2 + turn);
            }
        }
        says("Promise 26: true if nothing was built, or something of it was dropped since");
        Desk k = new Desk();
        due("nothing was built", k.x.isWhole() ? 1 : 0, 1);
        due("a fault", k.ends(0, "/ n1 n0"), 'z');
        due("nothing was built", k.x.isWhole() ? 1 : 0, 1);
        k.constant(5, "n5");
        k.function(1, 1, 0, "+ p0 d5");
        due("build", k.ends(1, "; c1 p0 _ K c1 n2 _"), '-');
        String before = asked(k);
        for (int i = 0; i < 3; i++) {
            due("built", k.x.isWhole() ? 1 : 0, 1);
        }
        told("asking changes nothing", asked(k), before);
        due("run", k.x.run(1, 0), 'v');
        due("an edit", k.constant(5, "/ n1 n0"), 4);
        due("dropped since", k.x.isWhole() ? 1 : 0, 1);
        due("a fault", k.x.build(0), 'z');
        due("dropped since", k.x.isWhole() ? 1 : 0, 1);
        k.function(2, 0, 0, "n1");
        due("another build", k.x.build(2), '-');
        due("built", k.x.isWhole() ? 1 : 0, 1);
        refused("and a fault of another one", ILLEGAL, () -> k.x.build(10));
        due("built", k.x.isWhole() ? 1 : 0, 1);
    }
}
