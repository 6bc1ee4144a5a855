import java.util.ArrayList;
import java.util.List;

/**
 * What sentences of ../shared/DOC.md say together: which of two faults is first, what is kept beside an edit or a limit,
 * what is put off beside a fault or a value, a build behind edits and one from nothing, a run by what was made and plainly.
 */
public final class TogetherRuns extends EdgeRuns {
    static final String[] KNOWN = {"n0", "n1", "n3", "N1099511627776", "w1:8", "w-1:-1", "f1", "f-3", "F", "t8", "e1", "v0", "d5", "c3 _ _",
        "r n1", "r e2", "T e1", "K n2", "s0 n2", "D n3", "E r e4"};
    static final String[] PARTS = {"n0", "n1", "e1", "p0", "p1", "v0", "w1:-32", "f1", "d5", "c3 _ _", "c4 p0 _", "c4 n1 _", "r p0", "r e2",
        "T e1", "T p0", "o n1", "o p0", "s0 p0", "D o n3", "E o p0", "K n2"};
    static final String[] ONES = {"y", "z", "x", "K", "T", "r", "D", "E", "s0", "t+", "t-"};
    static final String[] TWOS = {"+", "-", "*", "/", "%", "<", "=", "P", "Q", "k", "C", ";"};

    public static void main(String[] args) {
        faultsOfOperators();
        faultsOfParts();
        faultsOfCalls();
        faultsOfBuilds();
        faultsBesideLimits();
        knownAndMade();
        putOffAndFaults();
        putOffInBuilds();
        keptAndLimits();
        keptAndEdits();
        keptAndFaults();
        earlyAndLate();
        madeAndPlain();
        editsAndNothing();
        System.out.println(wrong == 0 ? "what sentences say together holds" : wrong + " answers are not as due");
        if (wrong != 0) {
            System.exit(1);
        }
    }

    // ---- which fault is first

    static void faultsOfOperators() {
        says("the free one becomes one of this type, as 'k' does it; two numbers of unlike types, or something else than numbers "
                + "and floats, are the fault 't'");
        String[][] rows = {
            {"/ n300 w0:8", "c"}, {"/ w1:8 n300", "c"}, {"% n-1 w0:8", "c"}, {"/ w1:8 w0:9", "t"}, {"% w1:8 w0:-8", "t"},
            {"/ n1 w0:8", "z"}, {"/ w1:8 n0", "z"}, {"/ e1 n0", "t"}, {"/ n1 e0", "t"}, {"/ f1 w0:8", "t"}, {"/ w1:8 f0", "t"},
            {"+ n300 e1", "t"}, {"+ F w255:8", "t"}, {"+ w255:8 w255:8", "o"}, {"+ w255:8 n256", "c"}, {"+ w255:8 n1", "o"},
            {"P n1 n1", "t"}, {"P f1 f1", "t"}, {"P n1 f1", "t"}, {"P N16777217 f1", "c"}, {"Q f1 N16777217", "c"}, {"Q n1 n1", "t"},
            {"P n256 w1:8", "c"}, {"Q w1:8 n-1", "c"}, {"< n256 w1:8", "c"}, {"= n256 w1:8", "c"}, {"= w1:8 w1:9", "t"}, {"= f1 w1:8", "t"},
            {"= N16777217 f1", "c"}, {"k e1 t8", "t"}, {"k n300 n8", "t"}, {"k n300 t8", "c"}, {"k f300 e1", "t"}, {"i f1 / n1 n0 n1", "t"},
            {"i F n1 n1", "t"}, {"/ w-128:-8 w-1:-8", "o"}};
        for (String[] row : rows) {
            comes(row[0], row[1]);
        }
        comes("% w-128:-8 w-1:-8", "w0");
        comes("/ f1 n0", "f" + Float.floatToIntBits(Float.POSITIVE_INFINITY));
        comes("= e1 n300", "w0");
        comes("= F w1:8", "w0");
    }

    static void faultsOfParts() {
        says("Parts are worked out from the first one on.");
        for (String kind : "+ - * / % < = P Q k".split(" ")) {
            comes(kind + " e1 / n1 n0", "z");
            comes(kind + " w2:1 / n1 n0", "c");
            comes(kind + " / n1 n0 w2:1", "z");
            comes(kind + " i e1 n1 n1 / n1 n0", "t");
        }
        for (String kind : "y z x t+ t-".split(" ")) {
            comes(kind + " / n1 n0", "z");
        }
        comes("i / n1 n0 d9 d9", "z");
        comes("i e1 d9 d9", "t");
        comes("C / n1 n0 d9", "z");
        comes("C e1 d7", "d");
        comes("; / n1 n0 d9", "z");
        comes("; d7 / n1 n0", "d");
        runs("L / n1 p0 d9", 0, 0, "!d");
        runs("; o p0 L e1 n1", 0, 0, "t");
        runs("s0 / n1 p0", 0, 0, "z");
    }

    static void runs(String body, int first, int second, String want) {
        Desk k = new Desk();
        told(body + " built and run", k.built(body, first, second), want);
        if (!want.startsWith("!")) {
            told(body + " plainly", k.plain(body, first, second), want);
        }
    }

    static void faultsOfCalls() {
        says("A call works its arguments out, and then the body of the function");
        Desk k = new Desk();
        k.constant(5, "n1");
        k.function(1, 2, 0, "d9");
        k.function(2, 1, 0, "p0");
        String[][] rows = {{"c1 / n1 n0 w2:1", "z"}, {"c1 w2:1 / n1 n0", "c"}, {"c1 n1 w2:1", "c"}, {"c1 n1 n1", "d"}, {"c2 n1 / n1 n0", "n1"},
            {"c1 c1 n1 n1 / n1 n0", "d"}, {"c2 c9 _ _ _", "d"}, {"+ c2 w2:1 _ / n1 n0", "c"}};
        for (String[] row : rows) {
            told(row[0] + " plainly", k.plain(row[0], 0, 0), row[1]);
            told(row[0] + " in 'K'", k.built("K " + row[0], 0, 0), row[1].length() > 1 ? row[1] : "!" + row[1]);
            told(row[0] + " looked at", k.built(row[0], 0, 0), row[1].length() > 1 ? row[1] : "!" + row[1]);
        }
        says("A function that is called as a constant, or the other way round, or a declaration that is not there, is the fault 'd'.");
        for (String no : new String[] {"c5 / n1 n0 _", "c9 / n1 n0 w2:1"}) {
            told(no + " has no parameters, so no arguments", k.plain(no, 0, 0), "d");
            due("steps", k.x.steps(), 1);
            told(no + " in 'K'", k.built("K " + no, 0, 0), "!d");
            due("worked", k.x.worked(), 1);
            told(no + " looked at", k.built(no, 0, 0), "!d");
        }
    }

    static void faultsOfBuilds() {
        says("of which those for known parameters must be known, or it is the fault 'u', and making the function for these");
        Desk k = descent();
        k.function(2, 2, 1, "d9");
        due("30 functions, and an argument that is not known", k.ends(2, "; c1 n28 _ c2 p0 p1"), 'u');
        due("looked", k.x.looked(), 30);
        due("the next one would be one too many", k.ends(2, "; c1 n28 _ c2 n1 p1"), 'q');
        told("found in the function that leads to it", k.trace(), "0");
        due("an argument's fault ahead of it", k.ends(2, "; c1 n28 _ c2 n1 / n1 n0"), 'z');
        due("no function ahead of it", k.ends(2, "; c1 n28 _ c9 n1 / n1 n0"), 'd');
        due("a constant's fault behind it", k.ends(2, "; c1 n29 _ / n1 n0"), 'q');
        due("and ahead of it", k.ends(2, "; / n1 n0 c1 n29 _"), 'z');
        due("an argument that leads to too many", k.ends(2, "c2 c1 n29 _ p0"), 'q');
        due("'u' of a call behind what its arguments lead to", k.ends(2, "c2 c1 n28 _ p0"), 'u');
        says("parameters that are there and not known, and what puts out, are the fault 'u' there");
        due("'u' ahead of the other part", k.ends(1, "K + p0 / n1 n0"), 'u');
        due("the other part ahead of 'u'", k.ends(1, "K + / n1 n0 p0"), 'z');
        due("the part of 'o' ahead of it", k.ends(1, "K o / n1 n0"), 'z');
        due("'o' ahead of what follows", k.ends(1, "K ; o n1 / n1 n0"), 'u');
        due("'K' ahead of what follows", k.ends(1, "; K p0 / n1 n0"), 'u');
        due("what is ahead of 'K'", k.ends(1, "; / n1 n0 K p0"), 'z');
        says("Returns '-', or the fault: 'd' if it is no function, 'u' if it has known parameters.");
        k.function(3, 1, 1, "d9");
        due("ahead of what is in it", k.x.build(3), 'u');
        due("found ahead of all", k.x.trace(), 0);
        due("nothing is begun", k.x.looked(), 0);
    }

    static Desk descent() {
        Desk k = new Desk();
        k.function(1, 1, 1, "i p0 c1 - p0 n1 _ n7");
        return k;
    }

    static void faultsBesideLimits() {
        says("or with 'l' if more than 2000 nodes would be worked out");
        for (int nodes = 1996; nodes <= 1999; nodes++) {
            // behind so many nodes with ';' the fault is that of the node behind its two parts
            boolean reached = nodes + 4 <= 2000;
            Desk k = new Desk();
            String body = "; " + nodesOfRun(nodes) + " / p1 p1";
            told(nodes + " nodes and a fault plainly", k.plain(body, rounds(nodes), 0), reached ? "z" : "l");
            told(nodes + " nodes and a fault", k.built(body, rounds(nodes), 0), reached ? "z" : "l");
            due("steps", k.x.steps(), Math.min(nodes + 4, 2000));
        }
        says("are at most 500, otherwise it is the fault 'q'");
        for (int nodes = 496; nodes <= 499; nodes++) {
            boolean reached = nodes + 4 <= 500;
            Desk k = new Desk();
            told(nodes + " nodes and a fault", k.kept("; " + nodes(nodes) + " / n1 n0"), reached ? "z" : "q");
            due("worked", k.x.worked(), Math.min(nodes + 4, 500));
            told("trace", k.trace(), "19 8");
        }
        says("A constant, or such a call, that is needed while it is worked out is the fault 'r'.");
        Desk k = new Desk();
        k.constant(5, times(9, "K") + "d6");
        k.constant(6, times(8, "K") + "d5");
        told("'r' on the 20th level, where another one would be 'l'", k.built("d5", 0, 0), "!r");
        told("trace", k.trace(), "16 15 0");
        k.constant(6, times(8, "K") + "d7");
        k.constant(7, "d5");
        told("'r' on the 20th level", k.built("K d5", 0, 0), "!l");
        told("one level more is not come to", k.trace(), "16 15 0");
        told("'r' on the 20th level", k.built("d5", 0, 0), "!r");
        told("trace", k.trace(), "17 16 15 0");
        k = new Desk();
        k.constant(5, "; " + nodes(497) + " + n1 d5");
        told("'r' with the 500th node, where more would be 'q'", k.built("d5", 0, 0), "!q");
        k.constant(5, "; " + nodes(498) + " d5");
        told("'r' with the 500th node, where more would be 'q'", k.built("d5", 0, 0), "!r");
        due("worked", k.x.worked(), 500);
        says("More than 20 calls within one another are the fault 'l', that of a run itself counted.");
        k = new Desk();
        k.function(1, 1, 0, "i p0 c1 - p0 n1 _ c2 / n1 p0 _");
        k.function(2, 1, 0, "p0");
        told("the argument's fault ahead of one call too many", k.plain("c1 p0 _", 18, 0), "z");
        told("built", k.built("c1 p0 _", 18, 0), "z");
        told("in 'K'", k.built("K c1 n18 _", 0, 0), "!z");
        k.function(1, 1, 0, "i p0 c1 - p0 n1 _ c2 p0 _");
        told("one call too many", k.plain("c1 p0 _", 18, 0), "l");
        told("built", k.built("c1 p0 _", 18, 0), "l");
        told("in 'K'", k.built("K c1 n18 _", 0, 0), "!l");
    }

    // ---- known, made and kept

    static void knownAndMade() {
        says("functions that are made once for each row of known arguments");
        Desk k = new Desk();
        k.function(1, 2, 3, "= p0 p1");
        String[] values = {"n1", "w1:8", "w1:9", "f1", "t1", "e1", "v0", "n0", "* f0 f-1", "f0", "/ f0 f0", "- / f0 f0 f1"};
        // v0 is not known, and K v0 is
        for (int i = 0; i < values.length; i++) {
            due(values[i], k.ends(0, "c1 K " + values[i] + " K " + values[i]), '-');
            // those that are not a number have one row of bits
            due("made", k.x.made(), 1 + Math.min(i + 1, values.length - 1));
        }
        told("-0 and 0 are two rows, and equal as Java does it", k.built("c1 * f0 f-1 f0", 0, 0), "w1");
        told("not a number is one row, and not equal", k.built("c1 / f0 f0 / f0 f0", 0, 0), "w0");
        k.function(2, 1, 0, "; s0 p0 v0");
        due("calls of 'K' have such rows, too", k.ends(0, "K ; c2 f0 _ ; c2 * f0 f-1 _ ; c2 / f0 f0 _ c2 - f1 / f0 f0 _"), '-');
        due("calls", k.x.calls(), 3);
        says("an 'i' of which the part a is known is the one of both other parts that is chosen");
        k.function(1, 1, 1, "i = p0 n0 n5 c1 - p0 n1 _");
        due("functions are made as far as they are reached", k.ends(0, "c1 n9 _"), '-');
        due("made", k.x.made(), 11);
        due("run", k.x.run(0, 0), 'v');
        due("a call, its argument, and so on, and the last value", k.x.steps(), 10 * 2 + 1);
        k.function(3, 2, 1, "i p0 ; o p1 c3 - p0 n1 p1 p1");
        due("known beside not known", k.ends(1, "c3 n3 p0"), '-');
        due("made", k.x.made(), 5 + 10);
        told("run", k.x.run(6, 0) + k.value() + " " + k.outputs(), "vw6 6 6 6");
        due("plain", k.x.plain(0, 6, 0), 'v');
        told("plainly", k.value() + " " + k.outputs(), "w6 6 6 6");
    }

    // ---- what is put off

    static void putOffAndFaults() {
        says("'D' puts the part a off until the call is left, 'E' until it is left with an error; both are nothing.");
        says("A fault ends all at once.");
        puts("; D o n1 ; E o n2 C e5 n6", "1", "n6");
        puts("; D o n1 ; E o n2 C n6 e5", "1", "n6");
        puts("; D o n1 ; E o n2 C e6 e5", "2 1", "e5");
        puts("; E o n1 ; D ; E o n2 o n3 ; E o n4 T e5", "4 3 2 1", "e5");
        puts("; E o n1 ; D r e7 n5", "", "n5");
        puts("; E ; o n1 r n7 ; D o n2 r e5", "2 1", "e5");
        puts("; s0 e3 ; E o v0 ; D s0 n9 r v0", "9", "e3");
        puts("; D s0 n9 ; s0 n4 v0", "", "n4");
        puts("; D o v0 ; D s0 n9 ; s0 n4 v0", "9", "n4");
        puts("i ; D o n1 n0 n2 n3", "1", "n3");
        puts("; L ; D o n1 n0 n2 n4", "1", "n4");
        Desk k = new Desk();
        k.function(1, 1, 0, "; D o p0 ; E o n8 T p0");
        k.function(2, 1, 0, "; D o n4 ; c1 p0 _ o n5");
        String[][] rows = {{"C c1 e1 _ n7", "8 1", "n7"}, {"C c1 n1 _ n7", "1", "n1"}, {"; D o n9 T c1 e1 _", "8 1 9", "e1"},
            {"; D T c1 e1 _ ; E o n6 n7", "8 1", "n7"}, {"c2 e1 _", "8 1 5 4", "-0"}, {"; D o n9 c1 r e3 _", "9", "e3"},
            {"; D o n9 ; E o n3 c1 T e3 _", "3 9", "e3"}, {"; D c1 r n3 _ ; D o n2 n1", "2", "n1"}, {"; D c1 n3 _ r e4", "3", "e4"}};
        for (String[] row : rows) {
            told(row[0] + " plainly", k.plain(row[0], 0, 0), row[2]);
            told(row[0] + " puts out", k.outputs(), row[1]);
            told(row[0] + " built and run", k.built(row[0], 0, 0), row[2]);
            told(row[0] + " puts out", k.outputs(), row[1]);
        }
        faultsInParts();
    }

    static void faultsInParts() {
        String[][] rows = {{"; D o n1 ; D / n1 - p0 p0 ; D o n3 n4", "z", "3"}, {"; D o n1 ; E / n1 - p0 p0 n4", "n4", "1"},
            {"; D o n1 ; E / n1 - p0 p0 e4", "z", ""}, {"; D o n1 r / n1 - p0 p0", "z", ""}, {"; D o n1 ; D L n1 n1 n4", "l", ""},
            {"; D o n1 ; D c0 _ _ ; o n2 n4", "l", times(20, "2").trim()}, {"; D ; o n1 i e1 n1 n1 n4", "t", "1"}};
        for (String[] row : rows) {
            // the condition is an error that no build knows
            String body = row[0].replace("i e1", "i ; s0 e1 v0");
            Desk k = new Desk();
            told(body + " plainly", k.plain(body, 3, 0), row[1]);
            told(body + " puts out", k.outputs(), row[2]);
            told(body + " built and run", k.built(body, 3, 0), row[1]);
            told(body + " puts out", k.outputs(), row[2]);
        }
    }

    static void putOffInBuilds() {
        says("The part of 'K' is worked out as the build goes on, as in a run");
        Desk k = new Desk();
        told("put off in 'K'", k.built("K ; D s0 n5 ; s0 n3 v0", 0, 0), "n3");
        due("its node and its parts count", k.x.worked(), 8);
        told("with no error it is not done", k.built("K ; E d9 n3", 0, 0), "n3");
        told("with an error it is", k.built("K ; E d9 e3", 0, 0), "!d");
        told("but looked at outside of 'K'", k.built("; E d9 n3", 0, 0), "!d");
        k.function(1, 1, 0, "; D i p0 n1 d9 ; E / n1 n0 p0");
        told("in a call", k.built("K c1 n1 _", 0, 0), "n1");
        due("kept", k.x.calls(), 1);
        told("its fault", k.built("K ; c1 n1 _ c1 n0 _", 0, 0), "!d");
        told("is found in the call", k.trace(), "21 0");
        due("which is not kept", k.x.calls(), 1);
        told("an error", k.built("K c1 k n1 t8 _", 0, 0), "w1");
        k.function(1, 1, 0, "; E c2 n9 _ ; D c2 n8 _ p0");
        k.function(2, 1, 0, "p0");
        told("a call that is put off", k.built("K c1 n1 _", 0, 0), "n1");
        due("is kept, and that for an error is not worked out", k.x.calls(), 2);
        told("with an error both", k.built("K C c1 e1 _ n4", 0, 0), "n4");
        due("are kept", k.x.calls(), 4);
        due("an edit of it drops what needed it", k.function(2, 1, 0, "n0"), 5);
        k.constant(5, "; D d6 n1");
        k.constant(6, "; D d5 n1");
        told("needed in a part that is put off", k.built("d5", 0, 0), "!r");
        told("while it is worked out", k.trace(), "16 15 0");
        k.function(3, 1, 0, "; D d7 i p0 c3 - p0 n1 _ n7");
        k.constant(7, "n7");
        told("levels", k.built("K c3 n18 _", 0, 0), "!l");
        told("a part that is put off is within its call", k.built("K c3 n17 _", 0, 0), "n7");
    }

    // ---- what is kept

    static void keptAndLimits() {
        says("each as often as it needs it, kept or not, are at most 500");
        Desk k = new Desk();
        k.constant(6, "; d5 d5");
        for (int turn = 0; turn < 3; turn++) {
            k.constant(5, nodes(249));
            told("501 nodes", k.built("d6", 0, 0), "!q");
            due("5 is kept", k.x.numberOf(5), rounds(249));
            due("an edit of it", k.constant(5, nodes(248)), 1);
            told("499 nodes", k.built("d6", 0, 0), "n" + rounds(248));
            due("kept", k.x.constants(), 2);
            told("'K' has one more", k.built("K d6", 0, 0), "n" + rounds(248));
            told("or three", k.built("K ; n1 d6", 0, 0), "!q");
            due("5 and 6 are kept", k.x.constants(), 2);
            due("they and no function are dropped", k.constant(5, nodes(249)), 2);
        }
        says("and they are at most 20 within one another, a kept one as deep as it went");
        k = new Desk();
        k.constant(6, times(9, "K") + "d5");
        for (int turn = 0; turn < 3; turn++) {
            k.constant(5, times(9, "K") + "n2");
            told("20 levels", k.built("d6", 0, 0), "n2");
            told("21 levels", k.built("K d6", 0, 0), "!l");
            k.constant(5, times(8, "K") + "n2");
            told("one fewer", k.built("K d6", 0, 0), "n2");
            told("21 levels", k.built("K K d6", 0, 0), "!l");
            due("kept", k.x.constants(), 2);
        }
        says("A build leads to at most 30 made functions, kept ones and all to which they lead included");
        k = descent();
        for (int turn = 0; turn < 3; turn++) {
            k.function(2, 0, 0, "c1 n27 _");
            due("29 functions", k.x.build(2), '-');
            due("30", k.ends(0, "c2 _ _"), '-');
            k.function(3, 0, 0, "n1");
            due("31", k.ends(0, "; c2 _ _ c3 _ _"), 'q');
            due("the kept ones are kept", k.x.made(), 29);
            due("the edit drops one", k.function(2, 0, 0, "c1 n26 _"), 1);
            due("30", k.ends(0, "; c2 _ _ c3 _ _"), '-');
            due("looked", k.x.looked(), 3);
            due("28 of 1, 2, 3 and 0", k.x.made(), 31);
            due("an edit drops all that looked at it", k.function(1, 1, 1, "i p0 c1 - p0 n1 _ n7"), 30);
            due("3 is left", k.x.made(), 1);
        }
    }

    static void keptAndEdits() {
        says("each with the declarations that it, or what it led to, looked at; an edit of a declaration drops all that looked at it");
        Desk k = new Desk();
        k.constant(5, "n1");
        k.constant(6, "i d5 d7 d8");
        k.constant(7, "n7");
        k.constant(8, "n8");
        told("by 5", k.built("d6", 0, 0), "n7");
        due("8 was not looked at", k.constant(8, "n9"), 0);
        due("7 was", k.constant(7, "n6"), 3);
        due("7, 6 and 0 are gone, 5 is kept", k.x.constants(), 1);
        told("again", k.built("d6", 0, 0), "n6");
        due("5 and what needed it", k.constant(5, "n0"), 3);
        told("by 5", k.built("d6", 0, 0), "n9");
        due("7 is kept, and no longer looked at", k.constant(7, "n5"), 1);
        due("run", k.x.run(0, 0), 'v');
        due("8 was", k.x.remove(8), 3);
        refused("dropped", STATE, () -> k.x.run(0, 0));
        told("8 is not there", k.built("d6", 0, 0), "!d");
        told("found in 6, which is not kept", k.trace(), "16 0");
        due("5 is", k.x.constants(), 1);
        k.constant(8, "n4");
        told("there again", k.built("d6", 0, 0), "n4");
        keptCallsAndEdits();
    }

    static void keptCallsAndEdits() {
        Desk k = new Desk();
        k.constant(5, "n5");
        k.function(1, 1, 0, "i p0 c2 p0 _ d5");
        k.function(2, 1, 0, "+ p0 n1");
        due("build", k.ends(0, "; K c1 n0 _ K c1 n3 _"), '-');
        due("1 twice and 2 once", k.x.calls(), 3);
        due("an edit of 2 drops what needed it, and the function", k.function(2, 1, 0, "+ p0 n2"), 3);
        due("the call that did not is kept", k.x.calls(), 1);
        told("build", k.built("; K c1 n0 _ K c1 n3 _", 0, 0), "n5");
        due("the function and two calls", k.x.looked(), 3);
        due("worked", k.x.worked(), 2 * 2 + 4 + 3);
        due("an edit of 5", k.constant(5, "n6"), 3);
        due("an edit of 1", k.function(1, 1, 0, "c2 p0 _"), 1);
        due("2 for 3 is kept", k.x.calls(), 1);
        told("build", k.built("K c1 n3 _", 0, 0), "n5");
        due("worked", k.x.worked(), 2 + 2);
        // a function that is made and a call that is worked out are dropped by the same edit
        due("made beside", k.ends(0, "; c2 n3 _ K c2 n3 _"), '-');
        due("2 made, 2 and 1 worked out, 0", k.x.made() + k.x.calls(), 4);
        due("2 and all that looked at it", k.function(2, 1, 1, "p0"), 4);
    }

    static void keptAndFaults() {
        says("A fault drops what it was found in, on the way to it, and made functions that lead to one of these, and nothing else.");
        for (int early = 0; early < 2; early++) {
            Desk k = new Desk();
            k.constant(5, "n5");
            k.constant(6, "; d5 ; c1 n1 _ / n1 n0");
            k.function(1, 1, 0, "+ p0 d5");
            k.function(2, 1, 1, "; d5 i p0 c3 - p0 n1 _ d6");
            k.function(3, 1, 1, "; c4 _ _ c2 p0 _");
            k.function(4, 0, 0, "K c1 n2 _");
            k.function(7, 0, 0, "; c4 _ _ c2 n0 _");
            if (early == 1) {
                due("early", k.x.build(4), '-');
            }
            due("a fault", k.ends(0, "; K c1 n3 _ c2 n2 _"), 'z');
            told("on the way", k.trace(), "16 2 3 2 3 2 0");
            due("4 alone was made and leads to none of these", k.x.made(), 1);
            due("5 is kept", k.x.constants(), 1);
            due("calls, that of 6 too, are kept", k.x.calls(), 3);
            due("looked", k.x.looked(), early == 1 ? 9 : 12);
            due("the same again", k.x.build(0), 'z');
            told("on the same way", k.trace(), "16 2 3 2 3 2 0");
            due("but for what was kept", k.x.looked(), 7);
            due("from elsewhere", k.x.build(7), 'z');
            told("on another way", k.trace(), "16 2 7");
            due("an edit of what is not kept", k.constant(6, "n6"), 0);
            due("without the fault", k.x.build(0), '-');
            due("six functions and a constant", k.x.looked(), 7);
            due("made", k.x.made(), 7);
            due("whole", k.x.isWhole() ? 1 : 0, 1);
        }
    }

    // ---- early and late, made and plain

    /** Bodies of one or two parts that stand for all sentences about kinds. */
    static List<String> bodies(String[] parts) {
        List<String> all = new ArrayList<>(List.of(parts));
        for (String part : parts) {
            for (String kind : ONES) {
                all.add(kind + " " + part);
            }
            for (String other : parts) {
                for (String kind : TWOS) {
                    all.add(kind + " " + part + " " + other);
                }
                all.add("i " + part + " " + other + " n9");
                all.add("i " + part + " n9 " + other);
                all.add("; " + part + " ; " + other + " v0");
                all.add("C T " + part + " " + other);
            }
            all.add("c4 " + part + " _");
            all.add("c6 n2 " + part);
        }
        return all;
    }

    static Desk withOthers() {
        Desk k = new Desk();
        k.constant(5, "+ n1 n2");
        k.function(3, 0, 0, "; D s0 n7 n6");
        k.function(4, 1, 0, "C T p0 n1");
        k.function(6, 2, 1, "i = p0 n2 p1 d9");
        return k;
    }

    static void earlyAndLate() {
        says("what is known worked out early or late gives the same");
        for (String body : bodies(KNOWN)) {
            Desk k = withOthers();
            String late = k.plain(body, 0, 0);
            String fault = late.length() == 1 ? "!" : "";
            told(body + " as a constant", k.kept(body), late);
            told(body + " in 'K'", k.built("K " + body, 0, 0), fault + late);
            told(body + " in 'K' in a plain run", k.plain("K " + body, 0, 0), late);
            k.function(7, 0, 0, body);
            told(body + " in a call in 'K'", k.built("K c7 _ _", 0, 0), fault + late);
            told(body + " in a call", k.plain("c7 _ _", 0, 0), late);
        }
    }

    static void madeAndPlain() {
        says("A run works out the function that was built last without a fault, with arguments that are signed numbers of 32 bits, "
                + "by what was made");
        says("Plainly, a function is run by its nodes alone");
        for (String body : bodies(PARTS)) {
            Desk k = withOthers();
            k.function(0, 2, 0, body);
            boolean built = k.x.build(0) == '-';
            for (int first = 0; first < 2 && built; first++) {
                char end = k.x.run(first, 1);
                String made = end + (end == 'v' ? k.value() : "") + " " + k.outputs();
                int steps = k.x.steps();
                end = k.x.plain(0, first, 1);
                told(body + " by what was made", made, end + (end == 'v' ? k.value() : "") + " " + k.outputs());
                if (steps > k.x.steps()) {
                    fail(body + " takes more nodes by what was made");
                }
                due(body + " is whole", k.x.isWhole() ? 1 : 0, 1);
            }
        }
    }

    // ---- behind edits and from nothing

    static final String[][] CONSTANTS = {{"n2", "d6", "/ n1 n0"}, {"n3", "+ n1 d5", "K c3 n1 _"}};
    static final String[][] FUNCTIONS = {{"+ p0 d5", "i p0 c2 - p0 n1 d6 d5", "K + p0 d6"}, {"; d6 c1 n2 _", "c3 c1 n1 _ _"},
        {"p0", "; d5 i p0 c3 - p0 n1 _ d6"}};

    /** Declarations by which of their bodies they have: constants 5 and 6, functions 1 (known), 2 and 3; -1 if removed. */
    static void declare(Desk k, int which, int body) {
        int declaration = which < 2 ? 5 + which : which - 1;
        if (body < 0) {
            k.x.remove(declaration);
        } else if (which < 2) {
            k.constant(declaration, CONSTANTS[which][body]);
        } else {
            k.function(declaration, 1, which == 2 ? 1 : 0, FUNCTIONS[which - 2][body]);
        }
    }

    static void editsAndNothing() {
        says("a build behind edits is the one from nothing");
        int[] bodies = {0, 0, 0, 0, 0};
        Desk k = new Desk();
        for (int which = 0; which < 5; which++) {
            declare(k, which, 0);
        }
        // a row of edits that has every pair of bodies of two declarations behind one another
        int calls = 0;
        for (int turn = 0; turn < 400; turn++) {
            int which = turn * 7 % 5;
            int count = which < 2 ? 3 : which == 2 ? 3 : 2;
            int body = (bodies[which] + 2 + turn / 5 % 2) % (count + 1) - 1;
            if (body < 0 && bodies[which] < 0) {
                body = 0;
            }
            declare(k, which, body);
            bodies[which] = body;
            calls += compare(k, bodies, 2 + turn % 2);
            if (calls > 400) {
                k = new Desk();
                calls = 0;
                for (int i = 0; i < 5; i++) {
                    declareIfThere(k, i, bodies[i]);
                }
            }
        }
    }

    static void declareIfThere(Desk k, int which, int body) {
        if (body >= 0) {
            declare(k, which, body);
        }
    }

    /** Builds a function behind the edits and from nothing; how many calls were used. */
    static int compare(Desk k, int[] bodies, int function) {
        Desk fresh = new Desk();
        for (int i = 0; i < bodies.length; i++) {
            declareIfThere(fresh, i, bodies[i]);
        }
        char end = fresh.x.build(function);
        due("build behind edits", k.x.build(function), end);
        told("its trace", k.trace(), fresh.trace());
        if (end == '-') {
            for (int first = 0; first < 4; first++) {
                due("run", k.x.run(first, 0), fresh.x.run(first, 0));
                due("steps", k.x.steps(), fresh.x.steps());
            }
            due("whole", k.x.isWhole() ? 1 : 0, 1);
        }
        for (int d = 5; d < 7; d++) {
            told("constant " + d, keptOr(fresh, d, keptOr(k, d, "")), keptOr(k, d, ""));
        }
        return 30;
    }

    static String keptOr(Desk k, int declaration, String otherwise) {
        try {
            return k.x.kindOf(declaration) + "" + k.x.numberOf(declaration);
        } catch (java.util.NoSuchElementException e) {
            return otherwise;
        }
    }
}
