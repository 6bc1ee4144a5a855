import java.util.ArrayList;
import java.util.HashMap;
import java.util.HashSet;
import java.util.LinkedHashMap;
import java.util.LinkedHashSet;
import java.util.List;
import java.util.Map;
import java.util.NoSuchElementException;
import java.util.Random;
import java.util.Set;

/**
 * Random runs of calls on ComptimeBench and on an oracle: the document written down a second time, in the plainest way
 * (recursion, exceptions, trees of what is left of a function, Java's own floats), and the answers compared.
 */
public final class OracleRuns {
    static final int RUNS = Integer.getInteger("runs", 4000);
    static final int FIRST = Integer.getInteger("first", 0);

    public static void main(String[] args) {
        Map<String, Integer> seen = new HashMap<>();
        int wrong = 0;
        for (int seed = FIRST; seed < FIRST + RUNS && wrong < 3; seed++) {
            Player player = new Player(new Random(seed * 7919L + 13), seen);
            if (!player.play()) {
                wrong++;
                System.out.println("seed " + seed + ":");
                player.history.forEach(line -> System.out.println("  " + line));
            }
        }
        if (System.getProperty("seen") != null) {
            seen.entrySet().stream().sorted(Map.Entry.comparingByKey()).forEach(e -> System.out.println(e.getKey() + ": " + e.getValue()));
        }
        for (String due : "b- bd bu bz bo bt bc br bq bl rv rz ro rt rc rl pv pd pz po pt pc pl".split(" ")) {
            if (RUNS >= 2000 && seen.getOrDefault(due, 0) < 5) {
                wrong++;
                System.out.println("the random runs hardly reach " + due);
            }
        }
        System.out.println(wrong == 0 ? "the oracle agrees" : "the oracle does not agree");
        if (wrong != 0) {
            System.exit(1);
        }
    }

    // ---- the oracle

    record Val(char kind, int type, long number) {
        static final Val NOTHING = new Val('-', 0, 0);

        static Val number(int type, long number) {
            return new Val(type == 0 ? 'n' : 'w', type, number);
        }

        static Val real(float f) {
            return new Val('f', 99, Float.floatToIntBits(f));
        }

        static Val type(int type) {
            return new Val('t', 0, type);
        }

        boolean isNumber() {
            return kind == 'n' || kind == 'w' || kind == 'f';
        }

        boolean isWhole() {
            return kind == 'n' || kind == 'w';
        }

        float real() {
            return Float.intBitsToFloat((int) number);
        }
    }

    static final class Fault extends RuntimeException {
        final char letter;

        Fault(char letter) {
            super(null, null, false, false);
            this.letter = letter;
        }
    }

    static final class Leave extends RuntimeException {
        final Val value;

        Leave(Val value) {
            super(null, null, false, false);
            this.value = value;
        }
    }

    record Node(char kind, int a, int b, int c, int depth) {
    }

    record Declaration(boolean function, int parameters, int known, int body) {
    }

    /** What is left of a node at one place: its value if it is known, and otherwise what it has at its parts. */
    static final class Rest {
        final Node node;
        final Val value;
        final Rest[] parts;
        Made callee;

        Rest(Node node, Val value, Rest... parts) {
            this.node = node;
            this.value = value;
            this.parts = parts;
        }

        int unknown() {
            if (value != null) {
                return 0;
            }
            int n = 1;
            for (Rest part : parts) {
                n += part == null ? 0 : part.unknown();
            }
            return n;
        }
    }

    static final class Made {
        int declaration;
        List<Val> row;
        Rest rest;
        final Set<Integer> looked = new HashSet<>();
        final Set<String> leads = new LinkedHashSet<>();
    }

    static final class Kept {
        int code;
        Val value;
        int nodes;
        int levels;
        boolean working = true;
        final Set<Integer> looked = new HashSet<>();
    }

    static final class Call {
        List<Val> parameters;
        final Val[] variables = {Val.NOTHING, Val.NOTHING, Val.NOTHING, Val.NOTHING};
        final ArrayList<Rest> off = new ArrayList<>();
        Made made;
    }

    static final class Level {
        Kept kept;
        int nodes;
        int levels;
        final Set<Integer> looked = new HashSet<>();

        void add(int more) {
            nodes += more;
            if (nodes > 500) {
                throw new Fault('q');
            }
        }
    }

    static final class Oracle {
        List<Node> nodes = new ArrayList<>();
        Declaration[] declarations = new Declaration[10];
        Map<String, Made> mades = new LinkedHashMap<>();
        Map<String, Kept> things = new LinkedHashMap<>();

        List<Integer> trace = new ArrayList<>();
        int looked;
        int worked;
        String built;
        Set<String> reached;
        ArrayList<Made> way = new ArrayList<>();
        ArrayList<Level> levels = new ArrayList<>();

        boolean building;
        int steps;
        int depth;
        List<Val> outputs = new ArrayList<>();
        Val result;
        int runs;
        int valued;

        int node(char kind, int a, int b, int c) {
            if ("nepvdc+-*/%<=PQiktFyzxKTC;sLrDEo".indexOf(kind) < 0) {
                throw new IllegalArgumentException();
            }
            if ("edc".indexOf(kind) >= 0 && (a < 0 || a > 9) || "pt".indexOf(kind) >= 0 && (a < 0 || a > 1)
                    || "vs".indexOf(kind) >= 0 && (a < 0 || a > 3)) {
                throw new IllegalArgumentException();
            }
            int depth = 0;
            for (int part : numbers(new Node(kind, a, b, c, 0))) {
                if (part == -1 && kind == 'c') {
                    continue;
                }
                if (part < 0 || part >= nodes.size()) {
                    throw new IllegalArgumentException();
                }
                depth = Math.max(depth, nodes.get(part).depth);
            }
            if (nodes.size() == 220 || depth + 1 > 10) {
                throw new IllegalStateException();
            }
            nodes.add(new Node(kind, a, b, c, depth + 1));
            return nodes.size() - 1;
        }

        static int[] numbers(Node n) {
            switch (n.kind) {
                case 'y', 'z', 'x', 'K', 'T', 'r', 'D', 'E', 'o': return new int[] {n.a};
                case 't', 's': return new int[] {n.b};
                case 'c': return new int[] {n.b, n.c};
                case 'i': return new int[] {n.a, n.b, n.c};
                case 'n', 'e', 'p', 'v', 'd', 'F': return new int[] {};
                default: return new int[] {n.a, n.b};
            }
        }

        int declare(int number, Declaration d) {
            declarations[number] = d;
            int before = mades.size() + things.size();
            Set<String> doomed = new HashSet<>();
            for (Map.Entry<String, Made> e : mades.entrySet()) {
                if (looks(e.getKey(), number, new HashSet<>())) {
                    doomed.add(e.getKey());
                }
            }
            mades.keySet().removeAll(doomed);
            things.values().removeIf(k -> k.looked.contains(number));
            if (built != null && doomed.contains(built)) {
                built = null;
            }
            return before - mades.size() - things.size();
        }

        boolean looks(String key, int number, Set<String> been) {
            if (!been.add(key)) {
                return false;
            }
            Made made = mades.get(key);
            if (made.looked.contains(number)) {
                return true;
            }
            for (String lead : made.leads) {
                if (looks(lead, number, been)) {
                    return true;
                }
            }
            return false;
        }

        // builds

        char build(int number) {
            trace.clear();
            looked = 0;
            worked = 0;
            Declaration d = declarations[number];
            if (d == null || !d.function) {
                return 'd';
            }
            if (d.known != 0) {
                return 'u';
            }
            building = true;
            reached = new LinkedHashSet<>();
            way.clear();
            levels.clear();
            List<Val> row = new ArrayList<>();
            for (int i = 0; i < d.parameters; i++) {
                row.add(null);
            }
            try {
                make(number, row);
            } catch (Fault fault) {
                for (int i = levels.size() - 1; i >= 0; i--) {
                    if (levels.get(i).kept != null) {
                        trace.add(levels.get(i).kept.code);
                    }
                }
                for (int i = way.size() - 1; i >= 0; i--) {
                    trace.add(way.get(i).declaration);
                }
                dropFaulty();
                return fault.letter;
            } finally {
                building = false;
            }
            built = number + "" + row;
            return '-';
        }

        void dropFaulty() {
            things.values().removeIf(k -> k.working);
            Set<String> doomed = new HashSet<>();
            for (Made made : way) {
                doomed.add(made.declaration + "" + made.row);
            }
            boolean more = true;
            while (more) {
                more = false;
                for (Map.Entry<String, Made> e : mades.entrySet()) {
                    for (String lead : e.getValue().leads) {
                        more |= doomed.contains(lead) && doomed.add(e.getKey());
                    }
                }
            }
            mades.keySet().removeAll(doomed);
        }

        void reach(String key) {
            if (reached.add(key)) {
                if (reached.size() > 30) {
                    throw new Fault('q');
                }
                Made made = mades.get(key);
                if (made != null) {
                    made.leads.forEach(this::reach);
                }
            }
        }

        Made make(int number, List<Val> row) {
            String key = number + "" + row;
            reach(key);
            if (!way.isEmpty()) {
                way.get(way.size() - 1).leads.add(key);
            }
            if (mades.containsKey(key)) {
                return mades.get(key);
            }
            Made made = new Made();
            made.declaration = number;
            made.row = row;
            made.looked.add(number);
            mades.put(key, made);
            way.add(made);
            looked++;
            made.rest = look(made, declarations[number].body);
            way.remove(way.size() - 1);
            return made;
        }

        Rest known(Node node, Val value) {
            return new Rest(node, value);
        }

        Rest look(Made made, int number) {
            Node n = nodes.get(number);
            switch (n.kind) {
                case 'n', 'e', 'F':
                    return known(n, leaf(n));
                case 'p':
                    return new Rest(n, n.a < made.row.size() ? made.row.get(n.a) : Val.NOTHING);
                case 'd': {
                    Level outside = new Level();
                    levels.add(outside);
                    Val value = constant(n.a);
                    levels.remove(outside);
                    made.looked.addAll(outside.looked);
                    return known(n, value);
                }
                case 'K': {
                    Level outside = new Level();
                    levels.add(outside);
                    Val value = within(null, made.row, n.a);
                    levels.remove(outside);
                    made.looked.addAll(outside.looked);
                    return known(n, value);
                }
                case 'i': {
                    Rest a = look(made, n.a);
                    if (a.value != null) {
                        return look(made, truth(a.value) ? n.b : n.c);
                    }
                    Rest b = look(made, n.b);
                    return new Rest(n, null, a, b, look(made, n.c));
                }
                case 'C', ';': {
                    Rest a = look(made, n.a);
                    if (n.kind == 'C' && a.value != null && a.value.kind != 'e') {
                        return a;
                    }
                    Rest b = look(made, n.b);
                    return a.value != null ? b : new Rest(n, null, a, b);
                }
                case 'T': {
                    Rest a = look(made, n.a);
                    return a.value != null && a.value.kind != 'e' ? a : new Rest(n, null, a);
                }
                case 'c':
                    return lookCall(made, n);
                default:
            }
            int[] numbers = numbers(n);
            Rest[] parts = new Rest[numbers.length];
            boolean all = true;
            for (int i = 0; i < numbers.length; i++) {
                parts[i] = look(made, numbers[i]);
                all &= parts[i].value != null;
            }
            if (all && "+-*/%<=PQktyzx".indexOf(n.kind) >= 0) {
                return known(n, pure(n, parts[0].value, parts.length > 1 ? parts[1].value : null));
            }
            return new Rest(n, null, parts);
        }

        Rest lookCall(Made made, Node n) {
            Declaration d = declarations[n.a];
            if (d == null || !d.function) {
                throw new Fault('d');
            }
            Rest[] parts = new Rest[2];
            List<Val> row = new ArrayList<>();
            for (int i = 0; i < d.parameters; i++) {
                int number = i == 0 ? n.b : n.c;
                parts[i] = number < 0 ? null : look(made, number);
            }
            for (int i = 0; i < d.parameters; i++) {
                Val value = parts[i] == null ? Val.NOTHING : parts[i].value;
                boolean mustBe = (d.known & 1 << i) != 0;
                if (mustBe && value == null) {
                    throw new Fault('u');
                }
                row.add(mustBe ? value : null);
            }
            Rest rest = new Rest(n, null, parts);
            rest.callee = make(n.a, row);
            return rest;
        }

        // constants, calls and 'K' as a build goes on

        Val constant(int number) {
            Declaration d = declarations[number];
            if (d == null || d.function) {
                throw new Fault('d');
            }
            if (!building) {
                return call(List.of(), raw(d.body), null);
            }
            return need(10 + number, number, List.of());
        }

        Val need(int code, int number, List<Val> row) {
            String key = code + "" + row;
            Level outer = levels.get(levels.size() - 1);
            Kept kept = things.get(key);
            if (kept == null) {
                if (levels.size() > 20) {
                    throw new Fault('l');
                }
                looked++;
                kept = new Kept();
                kept.code = code;
                kept.looked.add(number);
                things.put(key, kept);
                return within(kept, row, declarations[number].body);
            }
            if (kept.working) {
                throw new Fault('r');
            }
            if (levels.size() - 1 + kept.levels > 20) {
                throw new Fault('l');
            }
            outer.levels = Math.max(outer.levels, kept.levels);
            outer.looked.addAll(kept.looked);
            outer.add(kept.nodes);
            return kept.value;
        }

        Val within(Kept kept, List<Val> row, int body) {
            if (levels.size() > 20) {
                throw new Fault('l');
            }
            Level outer = levels.get(levels.size() - 1);
            Level level = new Level();
            level.kept = kept;
            levels.add(level);
            Val value = perform(row, raw(body), null);
            levels.remove(level);
            outer.levels = Math.max(outer.levels, level.levels + 1);
            outer.looked.addAll(level.looked);
            if (kept != null) {
                kept.value = value;
                kept.nodes = level.nodes;
                kept.levels = level.levels + 1;
                kept.looked.addAll(level.looked);
                kept.working = false;
                outer.looked.addAll(kept.looked);
            }
            outer.add(level.nodes);
            return value;
        }

        // working nodes out

        Rest raw(int number) {
            return new Rest(nodes.get(number), null);
        }

        Rest part(Rest rest, int place) {
            if (rest.parts.length > 0) {
                return rest.parts[place];
            }
            int number = numbers(rest.node)[place];
            return number < 0 ? null : raw(number);
        }

        Val call(List<Val> row, Rest body, Made made) {
            if (depth == 20) {
                throw new Fault('l');
            }
            depth++;
            Val value = perform(row, body, made);
            depth--;
            return value;
        }

        Val perform(List<Val> row, Rest body, Made made) {
            Call call = new Call();
            call.parameters = row;
            call.made = made;
            Val value;
            try {
                value = eval(body, call);
            } catch (Leave leave) {
                value = leave.value;
            }
            while (!call.off.isEmpty()) {
                Rest last = call.off.remove(call.off.size() - 1);
                if (last.node.kind == 'E' && value.kind != 'e') {
                    continue;
                }
                try {
                    eval(part(last, 0), call);
                } catch (Leave leave) {
                    // it ends this part alone
                }
            }
            return value;
        }

        void count() {
            if (building) {
                levels.get(levels.size() - 1).add(1);
                worked++;
            } else {
                if (steps >= 2000) {
                    throw new Fault('l');
                }
                steps++;
            }
        }

        Val eval(Rest rest, Call call) {
            count();
            if (rest.value != null) {
                return rest.value;
            }
            Node n = rest.node;
            switch (n.kind) {
                case 'n', 'e', 'F':
                    return leaf(n);
                case 'p':
                    if (n.a >= call.parameters.size()) {
                        return Val.NOTHING;
                    }
                    if (call.parameters.get(n.a) == null) {
                        throw new Fault('u');
                    }
                    return call.parameters.get(n.a);
                case 'v':
                    return call.variables[n.a];
                case 'd':
                    return constant(n.a);
                case 'K':
                    return building ? within(null, call.parameters, n.a) : call(call.parameters, raw(n.a), null);
                case 'c':
                    return evalCall(rest, call);
                case 'i':
                    return eval(part(rest, truth(eval(part(rest, 0), call)) ? 1 : 2), call);
                case 'C': {
                    Val a = eval(part(rest, 0), call);
                    return a.kind == 'e' ? eval(part(rest, 1), call) : a;
                }
                case ';':
                    eval(part(rest, 0), call);
                    return eval(part(rest, 1), call);
                case 'T': {
                    Val a = eval(part(rest, 0), call);
                    if (a.kind == 'e') {
                        throw new Leave(a);
                    }
                    return a;
                }
                case 'r':
                    throw new Leave(eval(part(rest, 0), call));
                case 's':
                    call.variables[n.a] = eval(part(rest, 0), call);
                    return Val.NOTHING;
                case 'L':
                    while (truth(eval(part(rest, 0), call))) {
                        eval(part(rest, 1), call);
                    }
                    return Val.NOTHING;
                case 'D', 'E':
                    call.off.add(rest);
                    return Val.NOTHING;
                case 'o': {
                    Val a = eval(part(rest, 0), call);
                    if (building) {
                        throw new Fault('u');
                    }
                    outputs.add(a);
                    return Val.NOTHING;
                }
                default:
                    Val a = eval(part(rest, 0), call);
                    return pure(n, a, numbers(n).length > 1 ? eval(part(rest, 1), call) : null);
            }
        }

        Val evalCall(Rest rest, Call call) {
            Declaration d = declarations[rest.node.a];
            if (d == null || !d.function) {
                throw new Fault('d');
            }
            if (building) {
                levels.get(levels.size() - 1).looked.add(rest.node.a);
            }
            List<Val> row = new ArrayList<>();
            for (int i = 0; i < d.parameters; i++) {
                Rest part = part(rest, i);
                row.add(part == null ? Val.NOTHING : eval(part, call));
            }
            if (building) {
                return need(20 + rest.node.a, rest.node.a, row);
            }
            return call(row, rest.callee == null ? raw(d.body) : rest.callee.rest, rest.callee);
        }

        // runs

        char run(int first, int second) {
            if (built == null) {
                throw new IllegalStateException();
            }
            Made made = mades.get(built);
            return start(made.rest, declarations[made.declaration], made, first, second);
        }

        char plain(int number, int first, int second) {
            Declaration d = declarations[number];
            return start(d == null ? null : raw(d.body), d, null, first, second);
        }

        char start(Rest body, Declaration d, Made made, int first, int second) {
            steps = 0;
            depth = 0;
            outputs.clear();
            result = null;
            runs++;
            if (d == null || !d.function) {
                return 'd';
            }
            List<Val> row = new ArrayList<>();
            for (int i = 0; i < d.parameters; i++) {
                row.add(Val.number(-32, i == 0 ? first : second));
            }
            try {
                result = call(row, body, made);
            } catch (Fault fault) {
                return fault.letter;
            }
            valued++;
            return 'v';
        }

        boolean isWhole() {
            if (built == null) {
                return true;
            }
            Oracle other = new Oracle();
            other.nodes = nodes;
            other.declarations = declarations;
            if (other.build(mades.get(built).declaration) != '-') {
                return false;
            }
            for (Map.Entry<String, Made> e : other.mades.entrySet()) {
                Made same = mades.get(e.getKey());
                if (same == null || same.rest.unknown() != e.getValue().rest.unknown()) {
                    return false;
                }
            }
            for (Map.Entry<String, Kept> e : other.things.entrySet()) {
                Kept same = things.get(e.getKey());
                if (same == null || !same.value.equals(e.getValue().value)) {
                    return false;
                }
            }
            return true;
        }

        int nodesLeft() {
            int n = 0;
            for (Made made : mades.values()) {
                n += made.rest.unknown();
            }
            return n;
        }

        int kept(int from, int to) {
            int n = 0;
            for (Kept kept : things.values()) {
                n += kept.code >= from && kept.code < to ? 1 : 0;
            }
            return n;
        }

        Val keptConstant(int number) {
            Kept kept = things.get(10 + number + "[]");
            if (kept == null) {
                throw new NoSuchElementException();
            }
            return kept.value;
        }

        Val resultDue() {
            if (result == null) {
                throw new NoSuchElementException();
            }
            return result;
        }
    }

    // ---- what operators do

    static Val leaf(Node n) {
        return n.kind == 'n' ? Val.number(0, n.a) : n.kind == 'e' ? new Val('e', 0, n.a) : Val.type(99);
    }

    static boolean truth(Val value) {
        if (!value.isWhole()) {
            throw new Fault('t');
        }
        return value.number != 0;
    }

    static boolean has(int type, long number) {
        if (type == 0) {
            return number >= -1099511627776L && number <= 1099511627776L;
        }
        return type > 0 ? number >= 0 && number < 1L << type
                : number >= -(1L << -type - 1) && number < 1L << -type - 1;
    }

    static Val become(Val a, int type) {
        if (a.kind == 'f') {
            if (type == 99) {
                return a;
            }
            float f = a.real();
            if (f != Math.rint(f) || Math.abs(f) > 1e15f || !has(type, (long) f)) {
                throw new Fault('c');
            }
            return Val.number(type, (long) f);
        }
        if (type == 99) {
            float f = (float) a.number;
            if ((double) f != (double) a.number) {
                throw new Fault('c');
            }
            return Val.real(f);
        }
        if (!has(type, a.number)) {
            throw new Fault('c');
        }
        return Val.number(type, a.number);
    }

    static Val bit(boolean set) {
        return Val.number(1, set ? 1 : 0);
    }

    static Val pure(Node n, Val a, Val b) {
        switch (n.kind) {
            case 't':
                if (!a.isWhole() || a.number < 1 || a.number > 32) {
                    throw new Fault('t');
                }
                return Val.type((int) (n.a == 1 ? -a.number : a.number));
            case 'y':
                if (!a.isNumber()) {
                    throw new Fault('t');
                }
                return Val.type(a.type);
            case 'z':
                if (a.kind != 't') {
                    throw new Fault('t');
                }
                return Val.number(0, a.number == 99 ? 32 : Math.abs(a.number));
            case 'x':
                if (a.kind != 'f') {
                    throw new Fault('t');
                }
                return Val.number(-32, (int) a.number);
            case 'k':
                if (!a.isNumber() || b.kind != 't') {
                    throw new Fault('t');
                }
                return become(a, (int) b.number);
            default:
                return operate(n.kind, a, b);
        }
    }

    static Val operate(char kind, Val a, Val b) {
        if (!a.isNumber() || !b.isNumber()) {
            if (kind == '=') {
                return bit(a.equals(b));
            }
            throw new Fault('t');
        }
        if (a.kind == 'n' && b.kind != 'n') {
            a = become(a, b.type);
        } else if (b.kind == 'n' && a.kind != 'n') {
            b = become(b, a.type);
        }
        if (a.type != b.type) {
            throw new Fault('t');
        }
        if (a.kind == 'f') {
            float x = a.real();
            float y = b.real();
            switch (kind) {
                case '+': return Val.real(x + y);
                case '-': return Val.real(x - y);
                case '*': return Val.real(x * y);
                case '/': return Val.real(x / y);
                case '%': return Val.real(x % y);
                case '<': return bit(x < y);
                case '=': return bit(x == y);
                default: throw new Fault('t');
            }
        }
        java.math.BigInteger x = java.math.BigInteger.valueOf(a.number);
        java.math.BigInteger y = java.math.BigInteger.valueOf(b.number);
        switch (kind) {
            case '+': return fit(a.type, x.add(y));
            case '-': return fit(a.type, x.subtract(y));
            case '*': return fit(a.type, x.multiply(y));
            case '<': return bit(x.compareTo(y) < 0);
            case '=': return bit(x.equals(y));
            case '/', '%':
                if (y.signum() == 0) {
                    throw new Fault('z');
                }
                return fit(a.type, kind == '/' ? x.divide(y) : x.remainder(y));
            default:
        }
        if (a.type == 0) {
            throw new Fault('t');
        }
        long sum = a.number + b.number;
        long span = 1L << Math.abs(a.type);
        long least = a.type > 0 ? 0 : -span / 2;
        if (kind == 'Q') {
            return Val.number(a.type, sum < least ? least : sum >= least + span ? least + span - 1 : sum);
        }
        return Val.number(a.type, sum < least ? sum + span : sum >= least + span ? sum - span : sum);
    }

    static Val fit(int type, java.math.BigInteger number) {
        if (number.bitLength() > 60 || !has(type, number.longValue())) {
            throw new Fault('o');
        }
        return Val.number(type, number.longValue());
    }

    // ---- random runs

    interface Answer {
        long of();
    }

    static final class Player {
        final Random random;
        final Map<String, Integer> seen;
        final ComptimeBench bench = new ComptimeBench();
        final Oracle oracle = new Oracle();
        final List<String> history = new ArrayList<>();
        boolean right = true;
        /** Nodes by what they most likely are: numbers, types, anything. */
        final List<Integer> numbers = new ArrayList<>();
        final List<Integer> types = new ArrayList<>();
        /** One part in so many is taken without a look at what it is. */
        final int wild;

        Player(Random random, Map<String, Integer> seen) {
            this.random = random;
            this.seen = seen;
            this.wild = new int[] {2, 8, 40}[random.nextInt(3)];
        }

        long same(String call, Answer got, Answer due) {
            if (!right || history.size() >= 512) {
                return 0;
            }
            String g = tell(got);
            String d = tell(due);
            history.add(call + " = " + g);
            if (!g.equals(d)) {
                history.add("WRONG: due is " + d);
                right = false;
            }
            return g.startsWith("throws") ? -1 : Long.parseLong(g);
        }

        static String tell(Answer answer) {
            try {
                return "" + answer.of();
            } catch (IllegalArgumentException | IllegalStateException | NoSuchElementException | ArithmeticException e) {
                return "throws " + e.getClass().getSimpleName();
            } catch (ArrayIndexOutOfBoundsException e) {
                return "broken " + e;
            } catch (IndexOutOfBoundsException e) {
                return "throws IndexOutOfBoundsException";
            }
        }

        int pick(int n) {
            return random.nextInt(n);
        }

        int node(char kind, int a, int b, int c) {
            int n = (int) same("node('" + kind + "', " + a + ", " + b + ", " + c + ")", () -> bench.node(kind, a, b, c),
                    () -> oracle.node(kind, a, b, c));
            if (n >= 0 && right) {
                if ("tFy".indexOf(kind) >= 0) {
                    types.add(n);
                } else if ("npdc+-*/%<=PQikzxKC;".indexOf(kind) >= 0 || kind == 'v' && pick(wild) == 0) {
                    numbers.add(n);
                }
            }
            return n;
        }

        int some() {
            return pick(wild) == 0 ? any() : number();
        }

        int any() {
            int n = oracle.nodes.size();
            if (n == 0) {
                return 0;
            }
            return pick(3) == 0 ? pick(n) : Math.max(0, n - 1 - pick(Math.min(n, 9)));
        }

        int number() {
            int n = numbers.size();
            if (n == 0 || pick(4 * wild) == 0) {
                return any();
            }
            return numbers.get(pick(3) == 0 ? pick(n) : Math.max(0, n - 1 - pick(Math.min(n, 8))));
        }

        int type() {
            return types.isEmpty() || pick(4 * wild) == 0 ? any() : types.get(pick(types.size()));
        }

        int literal() {
            switch (pick(8)) {
                case 0: return pick(3) - 1;
                case 1: return 1 << pick(31);
                case 2: return -(1 << pick(31));
                case 3: return random.nextInt();
                case 4: return (1 << 1 + pick(30)) - 1;
                case 5: return 0;
                default: return pick(12);
            }
        }

        /** Which declarations are called is narrowed for each run, so that some are recursive and some are not. */
        int callable() {
            return pick(10) == 0 ? pick(10) : pick(5);
        }

        void randomNode() {
            switch (pick(34)) {
                case 0, 1, 2: node('n', literal(), 0, 0); break;
                case 3, 4: node('p', pick(2), 0, 0); break;
                case 5: node('v', pick(4), 0, 0); break;
                case 6: node('e', pick(10), 0, 0); break;
                case 7, 8: node('d', 5 + pick(5), 0, 0); break;
                case 9, 10, 11: node('c', callable(), pick(12) == 0 ? -1 : number(), pick(8) == 0 ? -1 : number()); break;
                case 12, 13, 14, 15, 16: node("+-*/%<=PQ+-<".charAt(pick(12)), number(), number(), 0); break;
                case 17, 18, 19: node('i', number(), some(), some()); break;
                case 20: node('k', number(), type(), 0); break;
                case 21: node('t', pick(2), number(), 0); break;
                case 22: node("Fyzx".charAt(pick(4)), pick(2) == 0 ? number() : type(), 0, 0); break;
                case 23, 24: node('K', some(), 0, 0); break;
                case 25: node('T', any(), 0, 0); break;
                case 26: node('C', any(), some(), 0); break;
                case 27, 28: node(';', any(), some(), 0); break;
                case 29: node('s', pick(4), some(), 0); break;
                case 30: node("LrDEo".charAt(pick(5)), any(), any(), 0); break;
                case 31: node('o', any(), 0, 0); break;
                case 32: node("DE".charAt(pick(2)), any(), 0, 0); break;
                default: randomFloat();
            }
        }

        void randomFloat() {
            int f = node('F', 0, 0, 0);
            int n = node('n', literal() & ~255, 0, 0);
            int k = node('k', n, f, 0);
            int m = node('k', node('n', pick(20) - 10, 0, 0), f, 0);
            node("+-*/%<=".charAt(pick(7)), k, m, 0);
        }

        /** Sums down to 1 by itself, its parameter known or not; the innermost end is left to chance. */
        void recursive() {
            int d = pick(3);
            int p = node('p', 0, 0, 0);
            int one = node('n', 1, 0, 0);
            int end = node('<', p, one, 0);
            int less = node('-', p, one, 0);
            int again = node('c', d, less, pick(4) == 0 ? p : -1);
            if (pick(4) == 0) {
                again = node('K', again, 0, 0);
            }
            int sum = node('+', p, again, 0);
            int body = node('i', end, pick(3) == 0 ? any() : one, sum);
            function(d, 1 + pick(2), pick(4) == 0 ? 0 : 1, body);
            int deep = node('n', pick(3) == 0 ? 10 + pick(35) : pick(12), 0, 0);
            int call = node('c', d, deep, -1);
            function(3, 0, 0, pick(2) == 0 ? call : node('K', call, 0, 0));
            same("build(3)", () -> bench.build(3), () -> oracle.build(3));
            tell("b", history);
        }

        /** Constants of constants and calls, near to the most nodes and levels; any of them may be kept early. */
        void chains() {
            int one = node('k', node('n', 1, 0, 0), node('t', 0, node('n', 8, 0, 0), 0), 0);
            int p = node('p', 0, 0, 0);
            int less = node('-', p, node('n', 1, 0, 0), 0);
            int first = node('c', 4, less, -1);
            int second = node('c', 4, pick(2) == 0 ? less : node('-', less, node('n', 1, 0, 0), 0), -1);
            function(4, 1, 0, node('i', node('<', p, node('n', 2, 0, 0), 0), one,
                    wrapped(node('P', first, pick(3) == 0 ? one : second, 0), pick(3))));
            for (int d = 5; d < 10; d++) {
                int leaf = pick(4) == 0 ? node('c', 4, node('n', pick(12), 0, 0), -1)
                        : d == 5 || pick(5) == 0 ? one : node('d', 5 + pick(d - 5), 0, 0);
                constant(d, node('P', wrapped(leaf, pick(7)), pick(3) == 0 ? wrapped(leaf, pick(4)) : one, 0));
            }
            for (int i = pick(8); i >= 0; i--) {
                int d = 5 + pick(5);
                function(pick(3), 0, 0, pick(3) == 0 ? wrapped(node('d', d, 0, 0), pick(4)) : node('d', d, 0, 0));
                build();
                if (pick(2) == 0) {
                    afterBuild();
                }
                if (pick(4) == 0) {
                    constant(d, pick(2) == 0 ? one : wrapped(one, pick(7)));
                }
            }
        }

        int wrapped(int part, int times) {
            int all = part;
            for (int i = 0; i < times; i++) {
                all = pick(2) == 0 ? node('K', all, 0, 0) : node('P', all, pick(3) == 0 ? part : all, 0);
            }
            return all;
        }

        /** Loops, calls and functions that come just up to a limit, or a little beyond it. */
        void edges() {
            int p = node('p', 0, 0, 0);
            int v = node('v', 0, 0, 0);
            int one = node('n', 1, 0, 0);
            int more = node('s', 0, node('+', v, one, 0), 0);
            if (pick(3) > 0) {
                int rounds = node('n', pick(4) == 0 ? 45 + pick(4) : pick(2) == 0 ? 32 + pick(4) : 68 + pick(4), 0, 0);
                int counted = counted(node('n', 0, 0, 0), rounds, more);
                constant(5, counted);
                function(1, 0, 0, counted);
                int again = node('c', 4, node('-', p, one, 0), -1);
                function(4, 1, pick(2), node('i', p, again, one));
                int five = tried(node('d', 5, 0, 0));
                int call = tried(node('c', 1, -1, -1));
                int far = node('c', 4, node('n', 14 + pick(18), 0, 0), -1);
                int need = node(';', pick(2) == 0 ? five : call, pick(3) == 0 ? one : pick(2) == 0 ? five : call, 0);
                constant(6, tried(need));
                function(2, 0, 0, pick(2) == 0 ? node('K', need, 0, 0) : node('d', 6, 0, 0));
                function(3, 0, 0, pick(3) == 0 ? far : wrapped(node('K', far, 0, 0), pick(3)));
                function(0, 0, 0, node(';', node('c', 2 + pick(2), -1, -1), node('c', 2 + pick(2), -1, -1), 0));
            } else {
                int put = pick(2) == 0 ? more : node(';', node("oDE".charAt(pick(3)), pick(2) == 0 ? v : node('o', v, 0, 0), 0, 0), more, 0);
                function(pick(4), 2, 0, counted(node('p', 1, 0, 0), p, put));
            }
            for (int i = pick(4); i >= 0; i--) {
                int d = pick(4);
                same("build(" + d + ")", () -> bench.build(d), () -> oracle.build(d));
                tell("b", history);
                afterBuild();
                int x = pick(2) == 0 ? 280 + pick(8) : pick(2) == 0 ? 36 + pick(8) : 140 + pick(60);
                same("run(" + x + ", 0)", () -> bench.run(x, 0), () -> oracle.run(x, 0));
                tell("r", history);
                afterRun();
                same("plain(" + d + ", " + x + ", 0)", () -> bench.plain(d, x, 0), () -> oracle.plain(d, x, 0));
                tell("p", history);
                afterRun();
                if (pick(4) == 0) {
                    edit();
                }
            }
        }

        /** A loop from one number to another, with a few nodes more that change nothing. */
        int counted(int from, int to, int more) {
            int v = node('v', 0, 0, 0);
            int loop = node('L', node('<', v, to, 0), more, 0);
            return node(';', node('s', 0, tried(from), 0), node(';', loop, tried(v), 0), 0);
        }

        int tried(int part) {
            int all = part;
            for (int i = pick(4); i > 0; i--) {
                all = node('T', all, 0, 0);
            }
            return all;
        }

        int typeNode() {
            int which = pick(8);
            if (which == 0) {
                return node('F', 0, 0, 0);
            }
            if (which == 1) {
                return node('y', node('n', 1, 0, 0), 0, 0);
            }
            return node('t', pick(2), node('n', pick(10) == 0 ? pick(50) - 5 : 1 + pick(32), 0, 0), 0);
        }

        /** One operator on the parameters, as numbers of random types, built and run. */
        void arithmetic() {
            int x = node('p', 0, 0, 0);
            int y = pick(3) == 0 ? node('n', literal(), 0, 0) : node('p', 1, 0, 0);
            int type = typeNode();
            x = pick(3) == 0 ? x : node('k', x, type, 0);
            y = pick(3) == 0 ? y : node('k', y, pick(4) == 0 ? typeNode() : type, 0);
            int z = node("+-*/%<=PQ/%".charAt(pick(11)), x, y, 0);
            if (pick(3) == 0) {
                z = node("+-*/%P".charAt(pick(6)), z, pick(2) == 0 ? x : y, 0);
            }
            if (pick(3) == 0) {
                z = node('k', z, typeNode(), 0);
            }
            function(4, 2, 0, z);
            same("build(4)", () -> bench.build(4), () -> oracle.build(4));
            tell("b", history);
            for (int i = pick(4); i >= 0; i--) {
                runs();
            }
        }

        void loop() {
            int p = pick(3) == 0 ? node('p', 0, 0, 0) : node('n', pick(60), 0, 0);
            int v = node('v', 0, 0, 0);
            int one = node('n', 1, 0, 0);
            int start = node('s', 0, node('n', 0, 0, 0), 0);
            int less = node('<', v, p, 0);
            int more = node('s', 0, node('+', v, one, 0), 0);
            int body = pick(2) == 0 ? more : node(';', node('c', callable(), v, -1), more, 0);
            int loop = node('L', less, body, 0);
            int all = node(';', node(';', start, loop, 0), v, 0);
            if (pick(2) == 0) {
                node('K', all, 0, 0);
            }
        }

        void wrongNode() {
            node("?abG+-=iKcpvsetd".charAt(pick(16)), pick(14) - 2, pick(3) == 0 ? -1 - pick(2) : any(), pick(3) == 0 ? 300 : any());
        }

        void function(int d, int parameters, int known, int body) {
            same("function(" + d + ", " + parameters + ", " + known + ", " + body + ")",
                    () -> bench.function(d, parameters, known, body), () -> {
                        if (d < 0 || d > 9 || body < 0 || body >= oracle.nodes.size() || parameters < 0 || parameters > 2
                                || known < 0 || known >= 1 << parameters) {
                            throw new IllegalArgumentException();
                        }
                        return oracle.declare(d, new Declaration(true, parameters, known, body));
                    });
        }

        void constant(int d, int body) {
            same("constant(" + d + ", " + body + ")", () -> bench.constant(d, body), () -> {
                if (d < 0 || d > 9 || body < 0 || body >= oracle.nodes.size()) {
                    throw new IllegalArgumentException();
                }
                return oracle.declare(d, new Declaration(false, 0, 0, body));
            });
        }

        void edit() {
            int known = pick(4) == 0 ? 1 + pick(3) : 0;
            switch (pick(8)) {
                case 0, 1, 2: {
                    int d = pick(6) == 0 ? pick(10) : pick(5);
                    function(d, Math.max(pick(3), known > 1 ? 2 : known), known, some());
                    break;
                }
                case 3, 4, 5:
                    constant(pick(6) == 0 ? pick(10) : 5 + pick(5), pick(2) == 0 ? number() : any());
                    break;
                case 6: {
                    int d = pick(12) - 1;
                    same("remove(" + d + ")", () -> bench.remove(d), () -> {
                        if (d < 0 || d > 9) {
                            throw new IllegalArgumentException();
                        }
                        if (oracle.declarations[d] == null) {
                            throw new NoSuchElementException();
                        }
                        return oracle.declare(d, null);
                    });
                    break;
                }
                default:
                    if (pick(2) == 0) {
                        function(pick(12) - 1, pick(5) - 1, pick(5) - 1, pick(240) - 10);
                    } else {
                        constant(pick(12) - 1, pick(240) - 10);
                    }
            }
        }

        void tell(String what, List<String> lines) {
            String last = lines.get(lines.size() - 1);
            int at = last.lastIndexOf("= ");
            boolean fresh = last.startsWith(what) && !last.startsWith("re");
            if (right && fresh && at >= 0 && !last.contains("throws")) {
                seen.merge(what + (char) Integer.parseInt(last.substring(at + 2)), 1, Integer::sum);
            }
        }

        void build() {
            int d = pick(4) == 0 ? pick(12) - 1 : pick(5);
            same("build(" + d + ")", () -> bench.build(d), () -> {
                if (d < 0 || d > 9) {
                    throw new IllegalArgumentException();
                }
                return oracle.build(d);
            });
            tell("b", history);
            if (d >= 0 && d < 10 && right && history.size() < 500 && pick(4) == 0) {
                fromNothing(d);
            }
        }

        /** What is known worked out early or late gives the same: the answer of a new bench with the same declarations. */
        void fromNothing(int declaration) {
            ComptimeBench other = new ComptimeBench();
            for (Node n : oracle.nodes) {
                other.node(n.kind, n.a, n.b, n.c);
            }
            for (int i = 0; i < 10; i++) {
                Declaration d = oracle.declarations[i];
                if (d != null && d.function) {
                    other.function(i, d.parameters, d.known, d.body);
                } else if (d != null) {
                    other.constant(i, d.body);
                }
            }
            same("build(" + declaration + ")", () -> bench.build(declaration), () -> other.build(declaration));
            if (oracle.build(declaration) == '-') {
                int x = literal();
                int y = pick(20) - 5;
                same("run(" + x + ", " + y + ")", () -> bench.run(x, y), () -> oracle.run(x, y));
                other.run(x, y);
                same("steps()", bench::steps, other::steps);
                same("result()", bench::result, other::result);
                same("outputs()", bench::outputs, other::outputs);
                same("isWhole()", () -> bench.isWhole() ? 1 : 0, () -> 1);
            }
        }

        void afterBuild() {
            same("trace()", bench::trace, () -> oracle.trace.size());
            if (pick(3) == 0 || oracle.trace.size() > 1) {
                for (int i = -1; i <= oracle.trace.size() && i < 6; i++) {
                    int at = i;
                    same("traceAt(" + i + ")", () -> bench.traceAt(at), () -> oracle.trace.get(at));
                }
            }
            same("made()", bench::made, () -> oracle.mades.size());
            same("constants()", bench::constants, () -> oracle.kept(10, 20));
            same("calls()", bench::calls, () -> oracle.kept(20, 30));
            same("looked()", bench::looked, () -> oracle.looked);
            same("worked()", bench::worked, () -> oracle.worked);
            same("nodesLeft()", bench::nodesLeft, oracle::nodesLeft);
            if (pick(3) == 0) {
                int d = pick(12) - 1;
                same("kindOf(" + d + ")", () -> bench.kindOf(d), () -> due(d).kind);
                same("numberOf(" + d + ")", () -> bench.numberOf(d), () -> due(d).number);
            }
            if (pick(3) == 0) {
                same("isWhole()", () -> bench.isWhole() ? 1 : 0, () -> oracle.isWhole() ? 1 : 0);
            }
            if (pick(5) == 0) {
                same("meanLeft()", () -> Double.doubleToLongBits(bench.meanLeft()), () -> {
                    if (oracle.mades.isEmpty()) {
                        throw new ArithmeticException();
                    }
                    return Double.doubleToLongBits((double) oracle.nodesLeft() / (double) oracle.mades.size());
                });
            }
        }

        Val due(int d) {
            if (d < 0 || d > 9) {
                throw new IllegalArgumentException();
            }
            return oracle.keptConstant(d);
        }

        void runs() {
            int x = pick(2) == 0 ? pick(20) - 5 : literal();
            int y = pick(2) == 0 ? pick(20) - 5 : literal();
            if (pick(2) == 0) {
                same("run(" + x + ", " + y + ")", () -> bench.run(x, y), () -> oracle.run(x, y));
                tell("r", history);
            } else {
                int d = pick(6) == 0 ? pick(12) - 1 : pick(5);
                same("plain(" + d + ", " + x + ", " + y + ")", () -> bench.plain(d, x, y), () -> {
                    if (d < 0 || d > 9) {
                        throw new IllegalArgumentException();
                    }
                    return oracle.plain(d, x, y);
                });
                tell("p", history);
            }
            afterRun();
        }

        void afterRun() {
            same("steps()", bench::steps, () -> oracle.steps);
            same("resultKind()", bench::resultKind, () -> oracle.resultDue().kind);
            same("result()", bench::result, () -> oracle.resultDue().number);
            same("outputs()", bench::outputs, () -> oracle.outputs.size());
            if (!oracle.outputs.isEmpty() || pick(6) == 0) {
                int at = pick(3) == 0 ? 39 + pick(2) : pick(oracle.outputs.size() + 2) - 1;
                same("output(" + at + ")", () -> bench.output(at), () -> {
                    if (at > 39) {
                        throw new IndexOutOfBoundsException();
                    }
                    return oracle.outputs.get(at).number;
                });
            }
            if (pick(5) == 0) {
                same("valueShare()", () -> Float.floatToIntBits(bench.valueShare()), () -> {
                    if (oracle.runs == 0) {
                        throw new ArithmeticException();
                    }
                    return Float.floatToIntBits((float) oracle.valued / (float) oracle.runs);
                });
            }
        }

        boolean play() {
            if (pick(3) == 0) {
                runs();
                afterBuild();
            }
            for (int i = 0; i < 8 + pick(30); i++) {
                randomNode();
            }
            for (int i = 0; i < 10 && pick(12) > 0; i++) {
                if (i < 5) {
                    int known = pick(3) == 0 ? 1 + pick(3) : 0;
                    function(i, Math.max(pick(3), known > 1 ? 2 : known), known, some());
                } else {
                    constant(i, some());
                }
            }
            while (right && history.size() < 512) {
                switch (pick(19)) {
                    case 18: edges(); break;
                    case 17: chains(); break;
                    case 16: arithmetic(); break;
                    case 0, 1, 2, 3: randomNode(); break;
                    case 4, 5, 6: edit(); break;
                    case 7, 8, 9:
                        build();
                        if (pick(2) == 0) {
                            afterBuild();
                        }
                        break;
                    case 10, 11: runs(); break;
                    case 12: wrongNode(); break;
                    case 13: recursive(); afterBuild(); break;
                    case 14: loop(); break;
                    default: afterBuild();
                }
            }
            return right;
        }
    }
}
