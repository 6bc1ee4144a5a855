import java.io.IOException;
import java.nio.file.Files;
import java.nio.file.Path;
import java.util.ArrayList;
import java.util.List;
import java.util.Set;
import java.util.regex.Matcher;
import java.util.regex.Pattern;

/**
 * The sentences of ../shared/DOC.md that name no edge (those that do are in EdgeRuns), and a look at the document itself:
 * each of its words must stand in a sentence that a test has told by says(..), and each such sentence in the document.
 */
public final class SentenceRuns extends EdgeRuns {
    static final String DOCUMENT = "../shared/DOC.md";
    /** What nothing is promised of, so that no test can have it. */
    static final String FREE = "Not promised";
    /** Titles within the terms, and the words between two sentences that are told each by itself. */
    static final Set<String> BETWEEN = Set.of("", "and", "or", "values", "nodes", "operators", "calls", "known", "builds", "runs",
            "exceptions", "terms", "what it is", "what later calls answer is free");

    public static void main(String[] args) {
        showsAll();
        asks();
        valueKinds();
        nodeKinds();
        looksAtNodes();
        runEnds();
        interfaceSays();
        promiseOfNodes();
        promisesOfDeclarations();
        promisesOfBuilds();
        promisesOfRuns();
        promisesOfFigures();
        everySentence();
        System.out.println(wrong == 0 ? "each sentence of the document is told by a test" : wrong + " answers are not as due");
        if (wrong != 0) {
            System.exit(1);
        }
    }

    // ---- What it is, and the terms

    static void showsAll() {
        says("A language that works out while it is built what is known by then: numbers of told widths and floats, types that "
                + "are values, errors that are tried and caught, steps that are put off until a call is left, functions that are "
                + "made once for each row of known arguments, and declarations that are looked at only when they are reached.");
        Desk k = new Desk();
        k.constant(5, "k n200 t8");
        k.constant(6, "/ f1 f4");
        k.constant(7, "y d5");
        k.function(1, 2, 2, "; D o p0 ; T p1 k n7 d7");
        due("build", k.ends(1, "; o d6 C c1 p0 e3 c1 p0 n1"), '-');
        due("a number of a told width", k.x.kindOf(5), 'w');
        due("a float", k.x.numberOf(6), Float.floatToIntBits(0.25f));
        due("a type is a value", k.x.kindOf(7), 't');
        due("of 8 bits", k.x.numberOf(7), 8);
        due("a function for each row", k.x.made(), 3);
        due("run", k.x.run(9, 0), 'v');
        told("the error is tried and caught", k.value(), "w7");
        told("steps are put off", k.outputs(), Float.floatToIntBits(0.25f) + " 9 9");
        k.constant(8, "d9");
        due("what is not reached is not looked at", k.ends(1, "i n1 p0 d8"), '-');
        due("build", k.ends(1, "i n0 p0 d8"), 'd');
    }

    static void asks() {
        says("Declarations, edits, builds and runs come by calls; faults and their traces, what was made, kept and looked at, "
                + "values and outputs are asked.");
        Desk k = new Desk();
        k.constant(5, "+ n1 n2");
        k.function(1, 1, 0, "* p0 d5");
        String[] seen = new String[6];
        seen[0] = asked(k);
        due("build", k.ends(1, "; o p0 + c1 p0 _ K c1 n2 _"), '-');
        seen[1] = asked(k);
        due("run", k.x.run(2, 0), 'v');
        seen[2] = asked(k);
        k.function(2, 0, 0, "d9");
        due("a fault", k.x.build(2), 'd');
        seen[3] = asked(k);
        due("an edit", k.constant(5, "n1"), 4);
        seen[4] = asked(k);
        due("a plain run", k.x.plain(1, 3, 0), 'v');
        seen[5] = asked(k);
        for (int i = 1; i < seen.length; i++) {
            due("each call changes what is asked", seen[i].equals(seen[i - 1]) ? 1 : 0, 0);
        }
        told("asking changes nothing", asked(k), seen[5]);
        told("a fault and its trace", k.trace(), "2");
    }

    static void valueKinds() {
        says("a number of a type");
        comes("k n5 t8", "w5");
        comes("y k n5 t-8", "t-8");
        says("that of floats; and that of free numbers");
        comes("y f1", "t99");
        comes("= y f1 F", "w1");
        comes("y n1", "t0");
        comes("= y n1 y n2", "w1");
        comes("= y n1 F", "w0");
    }

    static void nodeKinds() {
        says("each made of earlier ones, with a kind and the numbers a, b and c");
        ComptimeBench x = new ComptimeBench();
        for (char kind : "+-*/%<=PQkCyzxKTrDEoL;i".toCharArray()) {
            int before = x.node('n', 1, 0, 0);
            refused("'" + kind + "' of itself", ILLEGAL, () -> x.node(kind, before + 1, before + 1, before + 1));
            due("'" + kind + "' of an earlier one", x.node(kind, before, before, before), before + 1);
        }
        for (char kind : "ts".toCharArray()) {
            int before = x.node('n', 1, 0, 0);
            refused("'" + kind + "' of itself", ILLEGAL, () -> x.node(kind, 0, before + 1, 0));
            due("'" + kind + "' of an earlier one", x.node(kind, 0, before, 0), before + 1);
        }
        says("'n' the free number a. 'e' the error a.");
        comes("n7", "n7");
        comes("e7", "e7");
        says("'d' the value of the declaration a, a constant. 'c' a call of the declaration a, a function");
        Desk k = new Desk();
        for (int d = 1; d < 10; d++) {
            k.constant(d, "n" + (10 + d));
            told("d" + d, k.built("d" + d, 0, 0), "n" + (10 + d));
            told("d" + d, k.plain("d" + d, 0, 0), "n" + (10 + d));
            k.function(d, 0, 0, "n" + (20 + d));
            told("c" + d, k.built("c" + d + " _ _", 0, 0), "n" + (20 + d));
            told("c" + d, k.plain("c" + d + " _ _", 0, 0), "n" + (20 + d));
        }
        says("which is no node");
        k.function(1, 2, 0, "= p0 p1");
        told("both arguments are not there", k.plain("c1 _ _", 0, 0), "w1");
        due("the call, '=' and its parts", k.x.steps(), 4);
        told("built", k.built("c1 _ _", 0, 0), "w1");
        due("likewise", k.x.steps(), 4);
        due("and not known are the call, '=' and its parts", k.x.nodesLeft(), 4);
        due("in 'K'", k.ends(0, "K c1 _ _"), '-');
        due("likewise", k.x.worked(), 4);
        kindsOfParts();
    }

    static void kindsOfParts() {
        says("'P' and 'Q' of the parts a and b.");
        comes("P w200:8 w100:8", "w44");
        comes("Q w200:8 w100:8", "w255");
        comes("P w-100:-8 w100:-8", "w0");
        comes("Q w-100:-8 w-100:-8", "w-128");
        puts("- ; o n1 n7 ; o n2 n3", "1 2", "n4");
        puts("/ ; o n1 n7 ; o n2 n3", "1 2", "n2");
        puts("% ; o n1 n7 ; o n2 n3", "1 2", "n1");
        puts("< ; o n1 n7 ; o n2 n3", "1 2", "w0");
        says("'k' the part a as one of the type that b gives.");
        comes("k n7 t3", "w7");
        comes("y k n7 t3", "t3");
        comes("k n7 n3", "t");
        comes("k t3 n7", "t");
        says("'F' the type of floats. 'y' the type of the part a.");
        comes("F", "t99");
        comes("y w5:7", "t7");
        comes("y f5", "t99");
        comes("y n5", "t0");
        says("'K' the part a, which must be known as it is built.");
        comes("K + n1 n2", "n3");
        Desk k = new Desk();
        told("a parameter is not", k.built("K p0", 4, 0), "!u");
        told("in a plain run it may be", k.plain("K p0", 4, 0), "w4");
        told("a variable of its own is", k.built("; s0 p0 K ; s0 n3 v0", 4, 0), "n3");
    }

    static void looksAtNodes() {
        says("While a function is made for known arguments, its nodes are looked at");
        Desk k = new Desk();
        k.function(1, 1, 1, "i p0 + p0 d5 d6");
        k.constant(5, "n5");
        due("for 1 the first part is looked at", k.ends(0, "c1 n1 _"), '-');
        told("and known", k.x.run(0, 0) + k.value(), "vn6");
        due("for 0 the second one", k.ends(0, "c1 n0 _"), 'd');
        told("in the function", k.trace(), "1 0");
        due("the other one is made still", k.x.made(), 1);
        k.function(2, 1, 0, "i p0 + p0 d5 d6");
        due("without known arguments both", k.ends(0, "c2 n1 _"), 'd');
        told("in the function", k.trace(), "2 0");
    }

    static void runEnds() {
        says("by what was made");
        Desk k = new Desk();
        k.function(1, 1, 1, "+ p0 * p0 p0");
        told("known arguments", k.built("c1 n4 _", 0, 0), "n20");
        due("the call, the argument and a value", k.x.steps(), 3);
        told("plainly", k.plain("c1 n4 _", 0, 0), "n20");
        due("and all nodes", k.x.steps(), 2 + 5);
        says("Both end with 'v', a value; with a fault");
        String[][] rows = {{"n1", "n1"}, {"e1", "e1"}, {"v0", "-0"}, {"/ p0 - p0 p0", "z"}, {"+ p0 e1", "t"}, {"k p0 t1", "c"},
            {"+ p0 N2147483647", "o"}, {"L p0 n1", "l"}};
        for (String[] row : rows) {
            runs(row[0], 4, 0, row[1]);
        }
    }

    // ---- the interface

    static String read(String file) {
        try {
            return Files.readString(Path.of(file));
        } catch (IOException e) {
            fail("no file " + file);
            return "";
        }
    }

    static void interfaceSays() {
        says("Ahead of the calls `node`, `constant`, `function`, `remove` the interface says: ---- nodes and declarations.");
        says("Ahead of the calls `build`, `trace`, `traceAt`, `made`, `constants`, `calls`, `looked`, `worked`, `nodesLeft`, `kindOf`, "
                + "`numberOf` the interface says: ---- builds.");
        says("Ahead of the calls `run`, `plain`, `resultKind`, `result`, `outputs`, `output`, `steps` the interface says: ---- runs.");
        says("Ahead of the calls `valueShare`, `meanLeft`, `isWhole` the interface says: ---- figures.");
        String text = read("src/main/java/ComptimeBench.java");
        String[] order = {"// ---- nodes and declarations", " node(", " constant(", " function(", " remove(", "// ---- builds",
            " build(", " trace(", " traceAt(", " made(", " constants(", " calls(", " looked(", " worked(", " nodesLeft(", " kindOf(",
            " numberOf(", "// ---- runs", " run(", " plain(", " resultKind(", " result(", " outputs(", " output(", " steps(",
            "// ---- figures", " valueShare(", " meanLeft(", " isWhole("};
        int from = 0;
        for (String what : order) {
            int at = text.indexOf(what.startsWith("//") ? "    " + what + "\n" : what, from);
            if (at < 0) {
                fail("the class has not, in this order, " + what);
            } else {
                from = at;
            }
        }
    }

    // ---- the promises

    static void promiseOfNodes() {
        says("Promise 2: Adds a node. - `kind`: its kind - `a`: its first number - `b`: its second number - `c`: its third number");
        Desk k = new Desk();
        int one = k.x.node('n', 1, 0, 0);
        int two = k.x.node('n', 2, 0, 0);
        int three = k.x.node('n', 3, 0, 0);
        int either = k.x.node('i', one, two, three);
        due("constant", k.x.constant(9, either), 0);
        k.function(0, 0, 0, "d9");
        due("build", k.x.build(0), '-');
        due("the second one of its numbers", k.x.numberOf(9), 2);
        k.x.constant(9, k.x.node('i', k.x.node('n', 0, 0, 0), two, three));
        due("build", k.x.build(0), '-');
        due("the third one of its numbers", k.x.numberOf(9), 3);
        says("Returns the number of the node.");
        ComptimeBench x = new ComptimeBench();
        for (int i = 0; i < 220; i++) {
            due("node", x.node(i % 2 == 0 ? 'n' : 'y', i - i % 2, 0, 0), i);
            refused("one that is not added", ILLEGAL, () -> x.node('?', 0, 0, 0));
        }
        says("Promise 2: Throws `IllegalArgumentException` if");
        refused("no such kind", ILLEGAL, () -> x.node('N', 0, 0, 0));
        says("Promise 2: Throws `IllegalStateException` if there are 220 nodes, or it would be too deep");
        refused("220 nodes", STATE, () -> x.node('n', 0, 0, 0));
        ComptimeBench deep = new ComptimeBench();
        deep.node('n', 1, 0, 0);
        for (int i = 0; i < 9; i++) {
            due("deeper", deep.node('T', i, 0, 0), i + 1);
        }
        refused("too deep", STATE, () -> deep.node('T', 9, 0, 0));
        due("it was not added", deep.node('T', 8, 0, 0), 10);
    }

    static void promisesOfDeclarations() {
        says("Promise 3: Declares a constant, or tells it anew; this is an edit. - `declaration`: the number of the declaration, "
                + "0 to 9 - `body`: its body");
        Desk k = new Desk();
        k.function(0, 0, 0, "; d1 d9");
        for (int d : new int[] {1, 9}) {
            due("declared", k.constant(d, "n" + d), 0);
        }
        due("build", k.x.build(0), '-');
        due("its body", k.x.numberOf(9), 9);
        due("anew", k.constant(9, "n8"), 2);
        due("build", k.x.build(0), '-');
        due("its body", k.x.numberOf(9), 8);
        due("the other one was kept", k.x.looked(), 2);
        due("anew, though it is the same", k.constant(9, "n8"), 2);
        says("Promise 4: Declares a function, or tells it anew; this is an edit. - `declaration`: the number of the declaration, "
                + "0 to 9 - `parameters`: the number of parameters, 0 to 2");
        k = new Desk();
        for (int d : new int[] {1, 9}) {
            for (int parameters = 0; parameters <= 2; parameters++) {
                due("declared", k.function(d, parameters, 0, "; s0 p0 ; s1 p1 v0"), parameters == 0 ? 0 : 2);
                told("build", k.built("c" + d + " n3 n4", 0, 0), parameters > 0 ? "n3" : "-0");
                due("declared", k.function(d, parameters, 0, "; s0 p0 ; s1 p1 v1"), 2);
                told("build", k.built("c" + d + " n3 n4", 0, 0), parameters > 1 ? "n4" : "-0");
            }
        }
        says("- `body`: its body");
        due("anew", k.function(9, 0, 0, "n5"), 2);
        told("its body", k.built("c9 _ _", 0, 0), "n5");
        says("Promise 5: Takes a declaration away; this is an edit. - `declaration`: the number of the declaration, 0 to 9");
        k = new Desk();
        for (int d : new int[] {1, 9}) {
            k.constant(d, "n1");
            told("there", k.built("d" + d, 0, 0), "n1");
            due("taken away", k.x.remove(d), 2);
            told("not there", k.built("d" + d, 0, 0), "!d");
        }
        says("Throws `IllegalArgumentException` if there is no such number");
        for (int no : NO_DECLARATION) {
            Desk of = k;
            refused("remove", ILLEGAL, () -> of.x.remove(no));
            refused("build", ILLEGAL, () -> of.x.build(no));
            refused("kindOf", ILLEGAL, () -> of.x.kindOf(no));
            refused("numberOf", ILLEGAL, () -> of.x.numberOf(no));
            refused("plain", ILLEGAL, () -> of.x.plain(no, 0, 0));
        }
    }

    static void promisesOfBuilds() {
        says("Promise 6: Builds a function. - `declaration`: the number of the declaration");
        Desk k = new Desk();
        for (int d = 0; d < 10; d++) {
            k.function(d, 0, 0, "n" + d);
        }
        for (int d = 0; d < 10; d++) {
            due("build", k.x.build(d), '-');
            due("made", k.x.made(), d + 1);
            due("run", k.x.run(0, 0), 'v');
            due("this one", k.x.result(), d);
        }
        says("Promise 7: Returns the length of the trace of the last build.");
        k.function(1, 0, 0, "c2 _ _");
        k.function(2, 0, 0, "c3 _ _");
        k.function(3, 0, 0, "/ n1 n0");
        for (int d = 1; d < 4; d++) {
            due("build", k.x.build(d), 'z');
            due("trace", k.x.trace(), 4 - d);
        }
        says("Promise 8: Returns a thing of the trace. - `index`: the index, from 0");
        due("build", k.x.build(1), 'z');
        for (int i = 0; i < 3; i++) {
            due("thing " + i, k.x.traceAt(i), 3 - i);
        }
        says("Throws `IndexOutOfBoundsException` if there is no such thing");
        Desk of = k;
        refused("thing 3", INDEX, () -> of.x.traceAt(3));
        refused("thing -1", INDEX, () -> of.x.traceAt(-1));
        countsOfBuilds();
    }

    static void countsOfBuilds() {
        Desk k = new Desk();
        k.constant(5, "+ n1 n2");
        k.constant(6, "d5");
        k.function(1, 1, 1, "v0");
        k.function(2, 1, 0, "p0");
        due("build", k.ends(0, "; c1 n1 _ ; c1 n2 _ ; d6 ; K c2 n1 _ ; K c2 n2 _ K c2 n3 _"), '-');
        says("Promise 9: Returns the number of made functions.");
        due("made", k.x.made(), 3);
        says("Promise 10: Returns the number of constants.");
        due("constants", k.x.constants(), 2);
        says("Promise 11: Returns the number of calls.");
        due("calls", k.x.calls(), 3);
        says("Promise 12: Returns the number of things.");
        due("looked", k.x.looked(), 8);
        says("Promises 13 and 14: Returns the number of nodes.");
        due("worked", k.x.worked(), 3 + 1 + 3 * 3);
        due("left", k.x.nodesLeft(), 4 + 2);
        says("Promise 15: Returns the kind of the value of a kept constant. - `declaration`: the number of the declaration");
        due("5", k.x.kindOf(5), 'n');
        k.constant(5, "t8");
        due("build", k.x.build(0), '-');
        due("5", k.x.kindOf(5), 't');
        due("6", k.x.kindOf(6), 't');
        says("Promise 16: Returns the number of a kept constant. - `declaration`: the number of the declaration");
        due("5", k.x.numberOf(5), 8);
        due("6", k.x.numberOf(6), 8);
    }

    static void promisesOfRuns() {
        says("Promise 17: Runs what was built. - `first`:");
        Desk k = new Desk();
        k.function(1, 2, 0, "- p0 p1");
        due("build", k.x.build(1), '-');
        due("run", k.x.run(9, 4), 'v');
        told("what was built", k.value(), "w5");
        says("- `second`: the second argument, likewise Returns 'v', or the fault.");
        due("run", k.x.run(4, 9), 'v');
        told("the second argument", k.value(), "w-5");
        due("a fault", k.x.run(Integer.MIN_VALUE, 1), 'o');
        k.function(1, 1, 0, "p0");
        due("build", k.x.build(1), '-');
        due("of no meaning", k.x.run(4, 9), 'v');
        told("the first one alone", k.value(), "w4");
        says("Promise 18: Runs a function plainly. - `declaration`: the number of the declaration - `first`:");
        for (int d = 0; d < 10; d++) {
            k.function(d, 2, 0, "- p0 n" + d);
        }
        for (int d = 0; d < 10; d++) {
            due("plain", k.x.plain(d, 20, 0), 'v');
            due("this one", k.x.result(), 20 - d);
        }
        says("- `second`: the second argument, likewise");
        k.function(9, 2, 0, "p1");
        due("plain", k.x.plain(9, 20, 30), 'v');
        told("the second argument", k.value(), "w30");
        says("Promise 19: Returns the kind of the value of the last run. Returns the kind, as kindOf() tells it.");
        says("Promise 20: Returns the number of the value of the last run. Returns the number, as numberOf() tells it.");
        for (String body : new String[] {"n5", "w5:8", "w-5:-8", "f5", "f-5", "t8", "t-8", "F", "free", "e5", "v0"}) {
            Desk of = new Desk();
            String kept = of.kept(body);
            due(body, of.x.run(0, 0), 'v');
            told(body + " by what was made", of.value(), kept);
            told(body + " plainly", of.plain(body, 0, 0), kept);
        }
        says("Promise 21: Returns the number of values.");
        told("three", k.plain("; o n4 ; o n5 o n6", 0, 0), "-0");
        due("outputs", k.x.outputs(), 3);
        says("Promise 22: Returns a value that the last run put out. - `index`: the index, from 0 Returns its number, as "
                + "numberOf() tells it.");
        for (int i = 0; i < 3; i++) {
            due("output", k.x.output(i), 4 + i);
        }
        says("Promise 23: Returns the number of nodes.");
        due("steps", k.x.steps(), 8);
    }

    static void promisesOfFigures() {
        says("Promise 24: Returns the share of the runs that ended with a value.");
        Desk k = new Desk();
        k.function(0, 1, 0, "/ n1 p0");
        due("build", k.x.build(0), '-');
        due("plainly", k.x.plain(0, 1, 0), 'v');
        due("all", Float.floatToIntBits(k.x.valueShare()), Float.floatToIntBits(1f));
        due("by what was made", k.x.run(0, 0), 'z');
        due("half", Float.floatToIntBits(k.x.valueShare()), Float.floatToIntBits(0.5f));
        due("by what was made", k.x.run(1, 0), 'v');
        due("two of three", Float.floatToIntBits(k.x.valueShare()), Float.floatToIntBits(2f / 3f));
        says("Throws `ArithmeticException` if there were none");
        Desk none = new Desk();
        refused("none", ARITHMETIC, () -> (long) none.x.valueShare());
        says("Promise 25: Returns the mean number of nodes that are not known in made functions.");
        due("2 of 1", Double.doubleToLongBits(k.x.meanLeft()), Double.doubleToLongBits(2.0));
        k.function(1, 0, 0, "n1");
        due("build", k.x.build(1), '-');
        due("2 of 2", Double.doubleToLongBits(k.x.meanLeft()), Double.doubleToLongBits(1.0));
        says("Throws `ArithmeticException` if none is made");
        refused("none", ARITHMETIC, () -> (long) none.x.meanLeft());
        says("Promise 26: and what it makes and keeps is kept now, with the same values and as many nodes that are not known");
        says("Promise 26: Returns whether this holds.");
        k.constant(5, "+ n1 n2");
        due("build", k.ends(1, "; d5 ; K c1 _ _ p0"), '-');
        due("whole", k.x.isWhole() ? 1 : 0, 1);
        due("an edit of what is not of it", k.constant(6, "n1"), 0);
        due("whole", k.x.isWhole() ? 1 : 0, 1);
        due("an edit of what is", k.constant(5, "d6"), 2);
        due("dropped", k.x.isWhole() ? 1 : 0, 1);
        due("build", k.x.build(0), '-');
        due("whole", k.x.isWhole() ? 1 : 0, 1);
    }

    // ---- the document

    /** Words alone, so that line ends and signs make no difference. */
    static String words(String text) {
        return text.toLowerCase().replaceAll("[^a-z0-9]+", " ").trim();
    }

    /** The texts of all says(..) in the tests that quote the document. */
    static List<String> toldByTests() {
        List<String> all = new ArrayList<>();
        for (String file : new String[] {"EdgeRuns", "SentenceRuns", "TogetherRuns"}) {
            String text = read("src/test/java/" + file + ".java");
            Matcher calls = Pattern.compile("says\\(((?:\\s*\"[^\"]*\"\\s*\\+?)+)\\);").matcher(text);
            while (calls.find()) {
                StringBuilder quote = new StringBuilder();
                Matcher parts = Pattern.compile("\"([^\"]*)\"").matcher(calls.group(1));
                while (parts.find()) {
                    quote.append(parts.group(1));
                }
                all.add(quote.toString());
            }
        }
        return all;
    }

    /** The document without its face, which FaceRuns has, its titles, and what is not promised. */
    static String documentTold() {
        String text = read(DOCUMENT);
        int free = text.indexOf("## " + FREE);
        if (free < 0) {
            fail("the document does not tell what is not promised");
            return text;
        }
        text = text.substring(0, free);
        text = text.replaceAll("(?s)```.*?```", " ");
        text = text.replaceAll("(?m)^#.*$", " ");
        return words(text.replaceAll("(?m)^`[^`]*`:", " "));
    }

    static void everySentence() {
        sentence = "every sentence of the document has a test";
        if (!Files.exists(Path.of(DOCUMENT))) {
            // the class can be tested without it
            System.out.println("no document is there to be looked at");
            return;
        }
        String text = " " + documentTold() + " ";
        boolean[] has = new boolean[text.length()];
        for (String quote : toldByTests()) {
            String sought = " " + words(quote.replaceAll("^Promises? [0-9]+( and [0-9]+)?: ", "")) + " ";
            int at = text.indexOf(sought);
            if (at < 0) {
                fail("the document has not \"" + quote + "\"");
            }
            for (; at >= 0; at = text.indexOf(sought, at + 1)) {
                for (int i = at + 1; i < at + sought.length() - 1; i++) {
                    has[i] = true;
                }
            }
        }
        StringBuilder left = new StringBuilder();
        for (int i = 0; i < text.length(); i++) {
            left.append(has[i] ? '\n' : text.charAt(i));
        }
        for (String words : left.toString().split("\n+")) {
            if (!BETWEEN.contains(words.trim())) {
                fail("no test tells \"" + words.trim() + "\"");
            }
        }
    }
}
