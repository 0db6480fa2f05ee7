import java.math.BigInteger;
import java.util.ArrayList;
import java.util.Arrays;
import java.util.List;
import java.util.Random;

/**
 * Compares CekMachine with a plain evaluator, written with objects and recursion and without a
 * thought for room, over made-up runs of at most 512 calls from fixed seeds.
 */
public final class ReferenceTest extends TestKit {
    private static final int RUNS = 12000;
    private static final int MOST_CALLS = 512;

    private static final long[] answers = new long[7];
    private static final long[] kinds = new long[8];

    public static void main(String[] args) {
        int runs = args.length > 0 ? Integer.parseInt(args[0]) : RUNS;
        for (int seed = 1; seed <= runs && wrongSoFar() < 20; seed++) {
            new Driver(seed).drive();
        }
        System.out.println("answers 0 to 6: " + Arrays.toString(answers) + ", kinds: " + Arrays.toString(kinds));
        for (int answer = 0; answer < answers.length; answer++) {
            due("whether run ever answered " + answer, answers[answer] > 0, true);
        }
        finish();
    }

    // ---- the made-up calls ----

    private static final class Driver {
        final int seed;
        final Random random;
        final CekMachine machine = new CekMachine();
        final Model model = new Model();
        int calls = 0;

        Driver(int seed) {
            this.seed = seed;
            this.random = new Random(seed);
        }

        void drive() {
            while (calls < MOST_CALLS && wrongSoFar() < 20) {
                if (random.nextInt(6) == 0) {
                    stray();
                } else {
                    term();
                }
            }
        }

        /** What is promised ends with the last call that counts. */
        void same(String what, Call got, Call want) {
            if (calls == MOST_CALLS) {
                return;
            }
            calls++;
            String answer = told(got);
            String wanted = told(want);
            if (!answer.equals(wanted)) {
                due("seed " + seed + ", call " + calls + ": " + what, answer, wanted);
            }
        }

        void node(int kind, long arg) {
            same("node " + kind + " " + arg, () -> machine.node(kind, arg), () -> model.node(kind, arg));
        }

        void bytes(long part, int n) {
            same("bytes " + part + " " + n, () -> machine.bytes(part, n), () -> model.bytes(part, n));
        }

        void more(long part, int n) {
            same("more " + part + " " + n, () -> machine.more(part, n) ? 1 : 0, () -> model.more(part, n) ? 1 : 0);
        }

        void drop() {
            same("drop", () -> machine.drop() ? 1 : 0, () -> model.drop() ? 1 : 0);
        }

        void clear() {
            same("clear", () -> {
                machine.clear();
                return 0;
            }, () -> {
                model.clear();
                return 0;
            });
        }

        void run(int steps, int memory) {
            if (calls == MOST_CALLS) {
                return;
            }
            same("run " + steps + " " + memory, () -> machine.run(steps, memory), () -> model.run(steps, memory));
            if (model.answer >= 0) {
                answers[model.answer]++;
            }
            if (model.result != null) {
                kinds[model.result.kind]++;
            }
            read();
        }

        void read() {
            same("kind", () -> machine.kind(), () -> model.result == null ? -1 : model.result.kind);
            same("number", () -> machine.number(), () -> model.number());
            for (int which = 3; which <= 6; which++) {
                look(which);
            }
            look(someInt());
            int bytes = model.result == null ? 0 : model.result.text.length;
            for (int k = bytes > 8 && random.nextBoolean() ? bytes - 3 : -1; k <= bytes; k++) {
                byteAt(k);
            }
            int n = model.nodes().size();
            for (int k : new int[] {-1, 0, n - 1, n}) {
                readData(k);
            }
            for (int i = 0; i < n && i < 6; i++) {
                readData(random.nextInt(n));
            }
        }

        void readData(int k) {
            for (int w = 0; w <= 3; w++) {
                data(k, w);
            }
            dataValue(k);
            int bytes = Math.max(0, model.data(k, 0) == 4 ? model.data(k, 1) : 0);
            for (int j : new int[] {0, bytes / 2, bytes - 1, bytes}) {
                dataByte(k, j);
            }
        }

        void look(int which) {
            same("look " + which, () -> machine.look(which), () -> model.look(which));
        }

        void byteAt(int k) {
            same("byteAt " + k, () -> machine.byteAt(k), () -> model.byteAt(k));
        }

        void data(int k, int w) {
            same("data " + k + " " + w, () -> machine.data(k, w), () -> model.data(k, w));
        }

        void dataValue(int k) {
            same("dataValue " + k, () -> machine.dataValue(k), () -> model.dataValue(k));
        }

        void dataByte(int k, int j) {
            same("dataByte " + k + " " + j, () -> machine.dataByte(k, j), () -> model.dataByte(k, j));
        }

        int some(int... of) {
            return of[random.nextInt(of.length)];
        }

        long someLong() {
            switch (random.nextInt(6)) {
                case 0: return random.nextLong();
                case 1: return Long.MIN_VALUE + random.nextInt(3);
                case 2: return Long.MAX_VALUE - random.nextInt(3);
                case 3: return random.nextInt(300) - 100;
                default: return random.nextInt(9) - 3;
            }
        }

        int someInt() {
            return some(random.nextInt(), random.nextInt(12) - 2, random.nextInt(210), Integer.MIN_VALUE, Integer.MAX_VALUE);
        }

        void budgetRun() {
            int steps = some(20000, 20000, 20000, random.nextInt(20001), random.nextInt(200), random.nextInt(30));
            int memory = some(3000, 3000, 3000, random.nextInt(3001), random.nextInt(100), random.nextInt(12));
            run(steps, memory);
        }

        /** Any call with any arguments. */
        void stray() {
            switch (random.nextInt(16)) {
                case 0: node(someInt(), someLong()); break;
                case 1: case 2: case 3: case 4: node(random.nextInt(12), 0); break;
                case 5: case 6: node(some(0, 6, 7, 9), random.nextInt(34) - 1); break;
                case 7: bytes(random.nextLong(), some(someInt(), random.nextInt(9))); break;
                case 8: more(random.nextLong(), some(someInt(), random.nextInt(9))); break;
                case 9: drop(); break;
                case 10: run(some(someInt(), 20001, 100), some(someInt(), 3001, 100)); break;
                case 11: budgetRun(); break;
                case 12: data(someInt(), random.nextInt(5)); break;
                case 13: dataValue(someInt()); break;
                case 14: dataByte(someInt(), someInt()); break;
                default:
                    if (random.nextInt(8) == 0) {
                        clear();
                    }
                    break;
            }
        }

        /** A TERM that mostly fits its kinds, and runs of it. */
        void term() {
            Maker maker = new Maker(random);
            List<long[]> made = maker.closed();
            if (made.size() > 190) {
                return;
            }
            if (model.look(1) + made.size() > 200) {
                clear();
            }
            for (long[] m : made) {
                if (m[0] == 8) {
                    bytes(m[1], (int) m[2]);
                } else if (m[0] == 108) {
                    more(m[1], (int) m[2]);
                } else {
                    node((int) m[0], m[1]);
                }
                if (calls >= MOST_CALLS) {
                    return;
                }
            }
            for (int i = random.nextInt(3); i >= 0; i--) {
                budgetRun();
            }
            if (random.nextBoolean()) {
                drop();
            }
        }
    }

    /** Makes TERMS by the kind that they are to come to: i s t u d l, f a function, any. */
    private static final class Maker {
        final Random random;
        List<long[]> out = new ArrayList<>();
        StringBuilder bound = new StringBuilder();

        Maker(Random random) {
            this.random = random;
        }

        List<long[]> closed() {
            int depth = 2 + random.nextInt(5);
            if (random.nextInt(12) == 0) {
                spin(1 + random.nextInt(4));
            } else if (random.nextInt(3) == 0) {
                loop("isdlltu".charAt(random.nextInt(7)), depth);
            } else {
                make("iiisssttudllcmnbvv".charAt(random.nextInt(18)), depth);
            }
            return out;
        }

        void op(long kind, long arg) {
            out.add(new long[] {kind, arg, 0});
        }

        void text() {
            int n = random.nextInt(4) == 0 ? random.nextInt(65) : random.nextInt(6);
            int first = Math.min(n, random.nextInt(9));
            boolean plain = random.nextBoolean();
            out.add(new long[] {8, plain ? 0x0101010101010101L : random.nextLong(), first});
            for (int left = n - first; left > 0; left -= 8) {
                out.add(new long[] {108, plain ? 0x0101010101010101L : random.nextLong(), Math.min(8, left)});
            }
        }

        void number() {
            int choice = random.nextInt(12);
            op(7, choice == 0 ? Long.MIN_VALUE : choice == 1 ? Long.MAX_VALUE : choice == 2 ? random.nextLong()
                    : choice < 6 ? random.nextInt(200) - 40 : random.nextInt(7) - 2);
        }

        void constant(char kind) {
            switch (kind) {
                case 'i': number(); break;
                case 's': text(); break;
                case 't': op(9, random.nextInt(2)); break;
                case 'u': op(10, 0); break;
                case 'l': case 'd': op(11, 0); break;
                case 'c': builtin(21, "il", 0); break;
                case 'm': builtin(30, "l", 0); break;
                case 'n': builtin(22, "i", 0); break;
                case 'b': builtin(23, "s", 0); break;
                default: op(10, 0); break;
            }
        }

        void builtin(int b, String takes, int depth) {
            op(6, b);
            for (int i = 0; i < takes.length(); i++) {
                make(takes.charAt(i), depth);
                op(2, 0);
            }
        }

        void make(char wanted, int depth) {
            char kind = random.nextInt(60) == 0 ? "istudlcmnb".charAt(random.nextInt(10)) : wanted;
            if (random.nextInt(150) == 0) {
                op(5, 0);
                return;
            }
            if (random.nextInt(3) == 0 && variable(kind)) {
                return;
            }
            if (depth <= 0 || out.size() > 150) {
                constant(kind);
                return;
            }
            switch (random.nextInt(12)) {
                case 0: let(kind, depth - 1); break;
                case 1: make(kind, depth - 1); op(3, 0); op(4, 0); break;
                case 2: choice(kind, depth - 1); break;
                case 3: constant(kind); break;
                case 4: wild(kind, depth - 1); break;
                default: operation(kind, depth - 1); break;
            }
        }

        boolean variable(char kind) {
            List<Integer> fit = new ArrayList<>();
            for (int i = 0; i < bound.length(); i++) {
                char b = bound.charAt(bound.length() - 1 - i);
                if (b == kind || kind == 'v' || kind == 'd' && "lcmnb".indexOf(b) >= 0) {
                    fit.add(i + 1);
                }
            }
            if (fit.isEmpty()) {
                return false;
            }
            op(0, fit.get(random.nextInt(fit.size())));
            return true;
        }

        void let(char kind, int depth) {
            char argument = "istudl".charAt(random.nextInt(6));
            bound.append(argument);
            make(kind, depth);
            bound.setLength(bound.length() - 1);
            op(1, 0);
            make(argument, depth);
            op(2, 0);
        }

        void choice(char kind, int depth) {
            op(6, 16);
            make('t', depth);
            op(2, 0);
            make(kind, depth);
            op(3, 0);
            op(2, 0);
            make(kind, depth);
            op(3, 0);
            op(2, 0);
            op(4, 0);
        }

        /** What need not fit: a function or BUILTIN as a VALUE, an application of anything. */
        void wild(char kind, int depth) {
            if (random.nextInt(4) != 0) {
                operation(kind, depth);
                return;
            }
            switch (random.nextInt(4)) {
                case 0: make('v', depth); op(1, 0); break;
                case 1: make('v', depth); op(3, 0); break;
                case 2: op(6, random.nextInt(32)); break;
                default: make('v', depth); make('v', depth); op(2, 0); break;
            }
        }

        void operation(char kind, int depth) {
            switch (kind) {
                case 'i': integerOperation(depth); break;
                case 's': {
                    int c = random.nextInt(4);
                    builtin(c < 2 ? 10 : c == 2 ? 13 : 25, c < 2 ? "ss" : c == 2 ? "iis" : "b", depth);
                    break;
                }
                case 't': truthOperation(depth); break;
                case 'c': builtin(21, "il", depth); break;
                case 'm': builtin(30, "l", depth); break;
                case 'n': builtin(22, "i", depth); break;
                case 'b': builtin(23, "s", depth); break;
                case 'l': {
                    int c = random.nextInt(8);
                    builtin(c == 0 ? 20 : c == 1 ? 27 : c == 2 ? 31 : 28,
                            c == 0 ? "c" : c == 1 ? "l" : c == 2 ? "m" : "dl", depth);
                    break;
                }
                case 'd': {
                    if (random.nextInt(8) == 0) {
                        builtin(26, "l", depth);
                    } else {
                        make("cmlnb".charAt(random.nextInt(5)), depth);
                    }
                    break;
                }
                case 'v': make("istudl".charAt(random.nextInt(6)), depth); break;
                default: constant(kind); break;
            }
        }

        void integerOperation(int depth) {
            switch (random.nextInt(12)) {
                case 0: builtin(11, "s", depth); break;
                case 1: builtin(12, "si", depth); break;
                case 2: builtin(18, "d", depth); break;
                case 3: builtin(19, "c", depth); break;
                case 4: builtin(24, "n", depth); break;
                default: builtin(random.nextInt(7), "ii", depth); break;
            }
        }

        void truthOperation(int depth) {
            switch (random.nextInt(6)) {
                case 0: builtin(14, "ss", depth); break;
                case 1: builtin(15, "ss", depth); break;
                case 2: builtin(17, "dd", depth); break;
                case 3: builtin(29, "l", depth); break;
                default: builtin(7 + random.nextInt(3), "ii", depth); break;
            }
        }

        /** (x -> .. x x ..) applied to itself: it ends by a budget, often by that of WAITING. */
        void spin(int around) {
            int[] shape = new int[around];
            for (int i = 0; i < around; i++) {
                shape[i] = random.nextInt(5);
            }
            for (int copy = 0; copy < 2; copy++) {
                spinBody(shape);
                op(1, 0);
            }
            op(2, 0);
        }

        void spinBody(int[] shape) {
            for (int i = shape.length - 1; i >= 0; i--) {
                if (shape[i] == 1) {
                    op(10, 0);
                } else if (shape[i] == 2) {
                    op(6, 0);
                }
            }
            op(0, 1);
            op(0, 1);
            op(2, 0);
            for (int around : shape) {
                if (around == 0) {
                    op(4, 0);
                } else if (around <= 2) {
                    op(2, 0);
                } else if (around == 3) {
                    op(11, 0);
                    op(2, 0);
                }
            }
        }

        /**
         * (self -> n -> acc -> if n <= 0 then acc else self self (n - 1) step) applied to itself, a
         * number and a start; or with the step around the inner call, so that it is WAITING.
         */
        void loop(char kind, int depth) {
            boolean waiting = random.nextBoolean();
            int times = random.nextInt(4) == 0 ? random.nextInt(500) : random.nextInt(30);
            String outer = bound.toString();
            loopFunction(kind, depth, waiting);
            loopFunction(kind, 1, waiting);
            op(2, 0);
            op(7, times);
            op(2, 0);
            bound = new StringBuilder(outer);
            make(kind, depth - 1);
            op(2, 0);
        }

        void loopFunction(char kind, int depth, boolean waiting) {
            StringBuilder outer = bound;
            bound = new StringBuilder(outer).append('x').append('i').append(kind);
            op(6, 16);
            op(6, 9);
            op(0, 2);
            op(2, 0);
            op(7, 0);
            op(2, 0);
            op(2, 0);
            op(0, 1);
            op(3, 0);
            op(2, 0);
            if (waiting) {
                bound.append(kind);
                make(kind, depth);
                bound.setLength(bound.length() - 1);
                op(1, 0);
                again();
                op(0, 1);
                op(2, 0);
                op(2, 0);
            } else {
                again();
                make(kind, depth);
                op(2, 0);
            }
            op(3, 0);
            op(2, 0);
            op(4, 0);
            op(1, 0);
            op(1, 0);
            op(1, 0);
            bound = outer;
        }

        /** self self (n - 1) */
        void again() {
            op(0, 3);
            op(0, 3);
            op(2, 0);
            op(6, 1);
            op(0, 2);
            op(2, 0);
            op(7, 1);
            op(2, 0);
            op(2, 0);
        }
    }

    // ---- the plain evaluator ----

    private static final class Node {
        final int kind;
        long arg;
        Node a;
        Node b;
        int[] text = {};

        Node(int kind, long arg) {
            this.kind = kind;
            this.arg = arg;
        }

        int count() {
            return 1 + (a == null ? 0 : a.count()) + (b == null ? 0 : b.count());
        }

        int lacks() {
            int l = Math.max(a == null ? 0 : a.lacks(), b == null ? 0 : b.lacks());
            return kind == 0 ? (int) arg : kind == 1 ? Math.max(0, l - 1) : l;
        }
    }

    private static final class Tree {
        final int form;
        BigInteger number = BigInteger.ZERO;
        int[] text = {};
        List<Tree> parts = new ArrayList<>();

        Tree(int form) {
            this.form = form;
        }

        void into(List<Tree> nodes) {
            nodes.add(this);
            for (Tree p : parts) {
                p.into(nodes);
            }
        }

        List<Tree> all() {
            List<Tree> nodes = new ArrayList<>();
            into(nodes);
            return nodes;
        }

        int depth() {
            int d = 0;
            for (Tree p : parts) {
                d = Math.max(d, p.depth());
            }
            return d + 1;
        }

        int size() {
            int b = 0;
            for (Tree t : all()) {
                b += t.text.length;
            }
            return all().size() + b / 8;
        }

        boolean same(Tree o) {
            if (form != o.form || !number.equals(o.number) || !Arrays.equals(text, o.text) || parts.size() != o.parts.size()) {
                return false;
            }
            for (int i = 0; i < parts.size(); i++) {
                if (!parts.get(i).same(o.parts.get(i))) {
                    return false;
                }
            }
            return true;
        }
    }

    private static final class Value {
        final int kind;
        BigInteger number = BigInteger.ZERO;
        int[] text = {};
        Tree tree;
        Node body;
        Scope scope;
        List<Value> given = new ArrayList<>();

        Value(int kind) {
            this.kind = kind;
        }

        int size() {
            return kind == 1 ? 1 + text.length / 8 : kind == 4 ? tree.size() : 1;
        }
    }

    private static final class Scope {
        final Value value;
        final Scope outer;

        Scope(Value value, Scope outer) {
            this.value = value;
            this.outer = outer;
        }
    }

    private static final class Failure extends RuntimeException {
        private static final long serialVersionUID = 1L;
        final int why;

        Failure(int why) {
            super(null, null, false, false);
            this.why = why;
        }
    }

    private static final class Model {
        static final String[] TAKES = {"ii", "ii", "ii", "ii", "ii", "ii", "ii", "ii", "ii", "ii", "ss", "s", "si",
            "iis", "ss", "ss", "tvv", "dd", "d", "0", "0", "i2", "i", "s", "3", "4", "2", "2", "d2", "2", "2", "1"};

        final List<Node> stack = new ArrayList<>();
        Value result = null;
        int answer = -1;
        int steps;
        int memory;
        int waiting;
        int most;
        int stepsLeft;
        int memoryLeft;

        void clear() {
            stack.clear();
        }

        int nodeCount() {
            int n = 0;
            for (Node t : stack) {
                n += t.count();
            }
            return n;
        }

        Node last() {
            return stack.isEmpty() ? null : stack.get(stack.size() - 1);
        }

        int node(int kind, long arg) {
            boolean known = kind >= 0 && kind <= 11 && kind != 8;
            long least = kind == 0 ? 1 : kind == 7 ? Long.MIN_VALUE : 0;
            long greatest = kind == 0 ? 200 : kind == 6 ? 31 : kind == 7 ? Long.MAX_VALUE : kind == 9 ? 1 : 0;
            if (!known || arg < least || arg > greatest) {
                throw new IllegalArgumentException();
            }
            int needs = kind == 2 ? 2 : kind == 1 || kind == 3 || kind == 4 ? 1 : 0;
            if (stack.size() < needs || nodeCount() == 200) {
                throw new IllegalStateException();
            }
            Node n = new Node(kind, arg);
            if (needs == 2) {
                n.b = stack.remove(stack.size() - 1);
            }
            if (needs >= 1) {
                n.a = stack.remove(stack.size() - 1);
            }
            stack.add(n);
            return stack.size();
        }

        static int[] joined(int[] a, int[] b) {
            int[] c = Arrays.copyOf(a, a.length + b.length);
            System.arraycopy(b, 0, c, a.length, b.length);
            return c;
        }

        static int[] bytesOf(long part, int n) {
            int[] b = new int[n];
            for (int i = n - 1; i >= 0; i--) {
                b[i] = (int) (part & 255);
                part >>= 8;
            }
            return b;
        }

        int bytes(long part, int n) {
            if (n < 0 || n > 8) {
                throw new IllegalArgumentException();
            }
            if (nodeCount() == 200) {
                throw new IllegalStateException();
            }
            Node t = new Node(8, 0);
            t.text = bytesOf(part, n);
            stack.add(t);
            return stack.size();
        }

        boolean more(long part, int n) {
            if (last() == null || last().kind != 8 || n < 1 || n > 8 || last().text.length + n > 64) {
                return false;
            }
            last().text = joined(last().text, bytesOf(part, n));
            return true;
        }

        boolean drop() {
            if (stack.isEmpty()) {
                return false;
            }
            stack.remove(stack.size() - 1);
            return true;
        }

        int run(int stepBudget, int memoryBudget) {
            if (last() == null || last().lacks() > 0) {
                throw new IllegalStateException();
            }
            if (stepBudget < 0 || stepBudget > 20000 || memoryBudget < 0 || memoryBudget > 3000) {
                throw new IllegalArgumentException();
            }
            steps = 0;
            memory = 0;
            waiting = 0;
            most = 0;
            stepsLeft = stepBudget;
            memoryLeft = memoryBudget;
            result = null;
            answer = 0;
            try {
                result = evaluate(last(), null);
            } catch (Failure f) {
                answer = f.why;
            }
            return answer;
        }

        void step(int n) {
            if (n > stepsLeft) {
                throw new Failure(4);
            }
            stepsLeft -= n;
            steps += n;
        }

        void pay(int n) {
            if (n > memoryLeft) {
                throw new Failure(5);
            }
            memoryLeft -= n;
            memory += n;
        }

        Value body(int kind, Node body, Scope scope) {
            pay(1);
            Value v = new Value(kind);
            v.body = body;
            v.scope = scope;
            return v;
        }

        static Value constant(Node n) {
            Value v = new Value(n.kind == 7 ? 0 : n.kind == 8 ? 1 : n.kind == 9 ? 2 : n.kind == 10 ? 3 : 4);
            v.number = BigInteger.valueOf(n.arg);
            v.text = n.text;
            v.tree = new Tree(2);
            return v;
        }

        Value evaluate(Node node, Scope scope) {
            while (true) {
                step(1);
                if (node.kind == 0) {
                    Scope s = scope;
                    for (int i = 1; i < node.arg; i++) {
                        s = s.outer;
                    }
                    return s.value;
                } else if (node.kind == 1) {
                    return body(5, node.a, scope);
                } else if (node.kind == 3) {
                    return body(6, node.a, scope);
                } else if (node.kind == 5) {
                    throw new Failure(1);
                } else if (node.kind == 6) {
                    pay(1);
                    Value v = new Value(7);
                    v.number = BigInteger.valueOf(node.arg);
                    return v;
                } else if (node.kind >= 7) {
                    return constant(node);
                }
                if (waiting == 400) {
                    throw new Failure(6);
                }
                waiting++;
                most = Math.max(most, waiting);
                Value first = evaluate(node.a, scope);
                Value second = node.kind == 2 ? evaluate(node.b, scope) : null;
                waiting--;
                if (node.kind == 4) {
                    if (first.kind != 6) {
                        throw new Failure(2);
                    }
                    scope = first.scope;
                } else if (first.kind == 5) {
                    pay(1);
                    scope = new Scope(second, first.scope);
                } else if (first.kind == 7) {
                    return callBuiltin(first, second);
                } else {
                    throw new Failure(2);
                }
                node = first.body;
            }
        }

        Value callBuiltin(Value function, Value argument) {
            Value v = new Value(7);
            v.number = function.number;
            v.given.addAll(function.given);
            v.given.add(argument);
            int b = v.number.intValue();
            if (v.given.size() < TAKES[b].length()) {
                pay(1);
                return v;
            }
            int cost = 1;
            for (Value g : v.given) {
                cost += g.size();
            }
            step(cost);
            for (int i = 0; i < v.given.size(); i++) {
                if (!fits(TAKES[b].charAt(i), v.given.get(i))) {
                    throw new Failure(2);
                }
            }
            Value r = done(b, v.given);
            if (r == null) {
                throw new Failure(3);
            }
            pay(r.size());
            return r;
        }

        static boolean fits(char c, Value v) {
            switch (c) {
                case 'i': return v.kind == 0;
                case 's': return v.kind == 1;
                case 't': return v.kind == 2;
                case 'v': return true;
                case 'd': return v.kind == 4;
                default: return v.kind == 4 && v.tree.form == c - '0';
            }
        }

        static Value integer(BigInteger n) {
            if (n == null || n.bitLength() > 63) {
                return null;
            }
            Value v = new Value(0);
            v.number = n;
            return v;
        }

        static Value integer(long n) {
            return integer(BigInteger.valueOf(n));
        }

        static Value truth(boolean b) {
            Value v = new Value(2);
            v.number = b ? BigInteger.ONE : BigInteger.ZERO;
            return v;
        }

        static Value text(int[] t) {
            if (t.length > 64) {
                return null;
            }
            Value v = new Value(1);
            v.text = t;
            return v;
        }

        static Value data(Tree t) {
            if (t == null || t.all().size() > 200 || t.depth() > 12) {
                return null;
            }
            Value v = new Value(4);
            v.tree = t;
            return v;
        }

        static Value data(int form, BigInteger number, List<Tree> parts) {
            Tree t = new Tree(form);
            t.number = number;
            t.parts.addAll(parts);
            return data(t);
        }

        static BigInteger[] downwards(BigInteger x, BigInteger y) {
            BigInteger[] q = x.divideAndRemainder(y);
            if (q[1].signum() != 0 && q[1].signum() != y.signum()) {
                return new BigInteger[] {q[0].subtract(BigInteger.ONE), q[1].add(y)};
            }
            return q;
        }

        static int clamp(BigInteger n) {
            return n.max(BigInteger.ZERO).min(BigInteger.valueOf(100)).intValue();
        }

        static boolean less(int[] a, int[] b) {
            for (int i = 0; i < a.length && i < b.length; i++) {
                if (a[i] != b[i]) {
                    return a[i] < b[i];
                }
            }
            return a.length < b.length;
        }

        static Value done(int b, List<Value> g) {
            BigInteger x = g.get(0).number;
            BigInteger y = g.size() > 1 ? g.get(1).number : BigInteger.ZERO;
            int[] s = g.get(0).text;
            int[] u = g.size() > 1 ? g.get(1).text : null;
            if (b >= 17) {
                return doneData(b, g, x, s);
            }
            boolean zero = y.signum() == 0;
            switch (b) {
                case 0: return integer(x.add(y));
                case 1: return integer(x.subtract(y));
                case 2: return integer(x.multiply(y));
                case 3: return integer(zero ? null : downwards(x, y)[0]);
                case 4: return integer(zero ? null : downwards(x, y)[1]);
                case 5: return integer(zero ? null : x.divide(y));
                case 6: return integer(zero ? null : x.remainder(y));
                case 7: return truth(x.equals(y));
                case 8: return truth(x.compareTo(y) < 0);
                case 9: return truth(x.compareTo(y) <= 0);
                case 10: return text(joined(s, u));
                case 11: return integer(s.length);
                case 12: return y.signum() < 0 || clamp(y) >= s.length ? null : integer(s[clamp(y)]);
                case 13: {
                    int[] t = g.get(2).text;
                    int from = Math.min(clamp(x), t.length);
                    return text(Arrays.copyOfRange(t, from, Math.min(t.length, from + clamp(y))));
                }
                case 14: return truth(Arrays.equals(s, u));
                case 15: return truth(less(s, u));
                default: return x.signum() == 1 ? g.get(1) : g.get(2);
            }
        }

        static Value doneData(int b, List<Value> g, BigInteger x, int[] s) {
            Tree d = g.get(0).tree;
            Tree e = g.size() > 1 ? g.get(1).tree : null;
            BigInteger none = BigInteger.ZERO;
            switch (b) {
                case 17: return truth(d.same(e));
                case 18: return integer(d.form);
                case 19: return integer(d.number);
                case 20: return data(2, none, d.parts);
                case 21: return x.signum() < 0 || x.bitLength() > 7 ? null : data(0, x, e.parts);
                case 22: return data(3, x, new ArrayList<>());
                case 23: {
                    Tree t = new Tree(4);
                    t.text = s;
                    return data(t);
                }
                case 24: return integer(d.number);
                case 25: return text(d.text);
                case 26: return d.parts.isEmpty() ? null : data(d.parts.get(0));
                case 27: return d.parts.isEmpty() ? null : data(2, none, d.parts.subList(1, d.parts.size()));
                case 28: {
                    List<Tree> p = new ArrayList<>(e.parts);
                    p.add(0, d);
                    return data(2, none, p);
                }
                case 29: return truth(d.parts.isEmpty());
                case 30: return d.parts.size() % 2 == 1 ? null : data(1, none, d.parts);
                default: return data(2, none, d.parts);
            }
        }

        long number() {
            if (result == null) {
                throw new IllegalStateException();
            }
            switch (result.kind) {
                case 0: case 2: case 7: return result.number.longValueExact();
                case 1: return result.text.length;
                case 4: return result.tree.all().size();
                default: return 0;
            }
        }

        int byteAt(int k) {
            return result == null || result.kind != 1 || k < 0 || k >= result.text.length ? -1 : result.text[k];
        }

        List<Tree> nodes() {
            return result == null || result.kind != 4 ? new ArrayList<>() : result.tree.all();
        }

        Tree nodeAt(int k) {
            return k < 0 || k >= nodes().size() ? null : nodes().get(k);
        }

        int data(int k, int w) {
            Tree t = nodeAt(k);
            if (t == null) {
                return -1;
            }
            switch (w) {
                case 0: return t.form;
                case 1: return t.form == 3 ? -1 : t.form == 4 ? t.text.length : t.parts.size() / (t.form == 1 ? 2 : 1);
                case 2: return t.form == 0 ? t.number.intValue() : -1;
                case 3: return t.depth();
                default: return -1;
            }
        }

        long dataValue(int k) {
            Tree t = nodeAt(k);
            if (t == null || t.form != 3) {
                throw new IllegalStateException();
            }
            return t.number.longValueExact();
        }

        int dataByte(int k, int j) {
            Tree t = nodeAt(k);
            return t == null || t.form != 4 || j < 0 || j >= t.text.length ? -1 : t.text[j];
        }

        int look(int which) {
            switch (which) {
                case 0: return stack.size();
                case 1: return nodeCount();
                case 2: return last() == null ? -1 : last().lacks();
                case 3: return answer;
                case 4: return answer < 0 ? -1 : steps;
                case 5: return answer < 0 ? -1 : memory;
                case 6: return answer < 0 ? -1 : most;
                default: return -1;
            }
        }
    }
}
