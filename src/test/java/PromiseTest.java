import java.lang.reflect.Member;
import java.lang.reflect.Modifier;
import java.util.ArrayList;
import java.util.Arrays;
import java.util.Collections;
import java.util.List;

/** What the document says, promise by promise: ordinary inputs, edges and wrong inputs. */
public final class PromiseTest extends TestKit {
    public static void main(String[] args) {
        face();
        newObject();
        clear();
        node();
        nodeRefusals();
        bytes();
        more();
        drop();
        runRefusals();
        runOfEachNode();
        runOrderOfFailures();
        runBudgets();
        runWaiting();
        runScopes();
        integers();
        byteStrings();
        choose();
        dataBuiltins();
        dataLimits();
        sizes();
        kindsTaken();
        kindAndNumber();
        byteAt();
        data();
        dataValueAndByte();
        look();
        resultOutlivesItsTerm();
        refusalsChangeNothing();
        finish();
    }

    // ---- the face ----

    private static void face() {
        List<String> members = new ArrayList<>();
        add(members, CekMachine.class.getDeclaredMethods());
        add(members, CekMachine.class.getDeclaredFields());
        add(members, CekMachine.class.getDeclaredConstructors());
        Collections.sort(members);
        String argumentFirst = " throws IllegalArgumentException,IllegalStateException";
        String stateFirst = " throws IllegalStateException,IllegalArgumentException";
        List<String> want = Arrays.asList(
                "public CekMachine()",
                "public boolean drop()",
                "public boolean more(long,int)",
                "public int byteAt(int)",
                "public int bytes(long,int)" + argumentFirst,
                "public int data(int,int)",
                "public int dataByte(int,int)",
                "public int kind()",
                "public int look(int)",
                "public int node(int,long)" + argumentFirst,
                "public int run(int,int)" + stateFirst,
                "public long dataValue(int) throws IllegalStateException",
                "public long number() throws IllegalStateException",
                "public static final int NONE",
                "public void clear()");
        due("members", String.join("; ", members), String.join("; ", want));
        due("class", Modifier.toString(CekMachine.class.getModifiers()), "public final");
        due("NONE", CekMachine.NONE, -1);
    }

    private static void add(List<String> members, Member[] all) {
        for (Member m : all) {
            if (!Modifier.isPrivate(m.getModifiers()) && !m.isSynthetic()) {
                members.add(m.toString().replace("java.lang.", "").replace("CekMachine.", ""));
            }
        }
    }

    // ---- promise 1 ----

    private static void newObject() {
        fresh();
        due("TERMS", x.look(0), 0);
        due("NODES", x.look(1), 0);
        for (int which = 2; which <= 6; which++) {
            due("look " + which, x.look(which), -1);
        }
        due("kind", x.kind(), -1);
        stateThrows("number", () -> x.number());
        due("byteAt", x.byteAt(0), -1);
        due("data", x.data(0, 0), -1);
        stateThrows("dataValue", () -> x.dataValue(0));
        due("dataByte", x.dataByte(0, 0), -1);
        due("drop", x.drop(), false);
        due("more", x.more(0, 1), false);
    }

    // ---- promise 2 ----

    private static void clear() {
        fresh();
        push(INTEGER, 1, INTEGER, 2, APPLY, 0, UNIT, 0);
        x.clear();
        due("TERMS", x.look(0), 0);
        due("NODES", x.look(1), 0);
        due("lacks", x.look(2), -1);
        due("drop", x.drop(), false);
        stateThrows("run", () -> x.run(1, 1));
        for (int i = 0; i < 200; i++) {
            x.node(UNIT, 0);
        }
        x.clear();
        due("node after a full STACK", x.node(UNIT, 0), 1);
        x.run(5, 5);
        x.clear();
        due("the result stays", x.kind(), 3);
        due("the run stays", x.look(3), 0);
    }

    // ---- promise 3 ----

    private static void node() {
        fresh();
        due("INTEGER", x.node(INTEGER, MIN), 1);
        due("TRUTH", x.node(TRUTH, 1), 2);
        due("APPLY", x.node(APPLY, 0), 1);
        due("UNIT", x.node(UNIT, 0), 2);
        due("LAMBDA", x.node(LAMBDA, 0), 2);
        due("DELAY", x.node(DELAY, 0), 2);
        due("FORCE", x.node(FORCE, 0), 2);
        due("ERROR", x.node(ERROR, 0), 3);
        due("BUILTIN 0", x.node(BUILTIN, 0), 4);
        due("BUILTIN 31", x.node(BUILTIN, 31), 5);
        due("EMPTY", x.node(EMPTY, 0), 6);
        due("VARIABLE 1", x.node(VARIABLE, 1), 7);
        due("VARIABLE 200", x.node(VARIABLE, 200), 8);
        due("TRUTH 0", x.node(TRUTH, 0), 9);
        due("NODES", x.look(1), 14);
        comesTo(apply(lambda(integer(3)), integer(4)), 0, 3);
        fails(apply(integer(4), lambda(integer(3))), 2);
    }

    private static void nodeRefusals() {
        fresh();
        for (int kind : new int[] {-1, 8, 12, Integer.MAX_VALUE, Integer.MIN_VALUE}) {
            argumentThrows("kind " + kind, () -> x.node(kind, 0));
        }
        for (int kind : new int[] {LAMBDA, APPLY, DELAY, FORCE, ERROR, UNIT, EMPTY}) {
            argumentThrows("arg 1 of " + kind, () -> x.node(kind, 1));
            argumentThrows("arg -1 of " + kind, () -> x.node(kind, -1));
            argumentThrows("arg 2^32 of " + kind, () -> x.node(kind, 1L << 32));
        }
        for (long arg : new long[] {0, 201, -1, (1L << 32) + 1, MAX, MIN}) {
            argumentThrows("VARIABLE " + arg, () -> x.node(VARIABLE, arg));
        }
        for (long arg : new long[] {-1, 32, 1L << 32, MAX, MIN}) {
            argumentThrows("BUILTIN " + arg, () -> x.node(BUILTIN, arg));
        }
        for (long arg : new long[] {-1, 2, (1L << 32) + 1}) {
            argumentThrows("TRUTH " + arg, () -> x.node(TRUTH, arg));
        }
        for (int kind : new int[] {LAMBDA, APPLY, DELAY, FORCE}) {
            stateThrows("no TERM for " + kind, () -> x.node(kind, 0));
        }
        push(UNIT, 0);
        stateThrows("one TERM for APPLY", () -> x.node(APPLY, 0));
        argumentThrows("argument before state", () -> x.node(APPLY, 5));
        for (int i = 1; i < 200; i++) {
            due("TERMS", x.node(UNIT, 0), i + 1);
        }
        for (int kind : new int[] {LAMBDA, APPLY, DELAY, FORCE, ERROR, UNIT, EMPTY, INTEGER}) {
            stateThrows("200 NODES and " + kind, () -> x.node(kind, 0));
        }
        argumentThrows("argument before full", () -> x.node(INTEGER + 1, 0));
        due("NODES", x.look(1), 200);
        due("TERMS", x.look(0), 200);
    }

    // ---- promise 4 ----

    private static void bytes() {
        fresh();
        due("none", x.bytes(-1, 0), 1);
        x.run(1, 0);
        due("kind", x.kind(), 1);
        due("number", x.number(), 0);
        due("byteAt", x.byteAt(0), -1);
        due("eight", x.bytes(0x0102030405060708L, 8), 2);
        x.run(1, 0);
        for (int i = 0; i < 8; i++) {
            due("byte " + i, x.byteAt(i), i + 1);
        }
        due("two of more", x.bytes(0x1234FFFEL, 2), 3);
        x.run(1, 0);
        due("number", x.number(), 2);
        due("first", x.byteAt(0), 255);
        due("second", x.byteAt(1), 254);
        due("NODES", x.look(1), 3);
        argumentThrows("n -1", () -> x.bytes(0, -1));
        argumentThrows("n 9", () -> x.bytes(0, 9));
        argumentThrows("n MIN", () -> x.bytes(0, Integer.MIN_VALUE));
        while (x.look(1) < 200) {
            push(UNIT, 0);
        }
        stateThrows("200 NODES", () -> x.bytes(0, 1));
        argumentThrows("argument before state", () -> x.bytes(0, 9));
    }

    // ---- promise 5 ----

    private static void more() {
        fresh();
        x.bytes(0, 0);
        due("n 0", x.more(0, 0), false);
        due("n 9", x.more(0, 9), false);
        due("n -1", x.more(0, -1), false);
        for (int i = 0; i < 7; i++) {
            due("more 8", x.more(0x1112131415161718L + i, 8), true);
        }
        due("more 7", x.more(0x21222324252627L, 7), true);
        due("beyond 64", x.more(0, 2), false);
        due("up to 64", x.more(0x99, 1), true);
        due("beyond 64", x.more(0, 1), false);
        x.run(1, 0);
        due("number", x.number(), 64);
        due("byte 0", x.byteAt(0), 0x11);
        due("byte 55", x.byteAt(55), 0x1e);
        due("byte 56", x.byteAt(56), 0x21);
        due("byte 62", x.byteAt(62), 0x27);
        due("byte 63", x.byteAt(63), 0x99);
        due("TERMS", x.look(0), 1);
        due("NODES", x.look(1), 1);
        push(UNIT, 0);
        due("no BYTES", x.more(0, 1), false);
        x.drop();
        push(LAMBDA, 0);
        due("a LAMBDA of BYTES", x.more(0, 1), false);
        x.bytes(1, 1);
        x.bytes(2, 1);
        x.more(3, 1);
        x.drop();
        x.more(4, 1);
        x.run(1, 0);
        due("number", x.number(), 2);
        due("byte", x.byteAt(0), 1);
        due("byte", x.byteAt(1), 4);
        x.clear();
        due("no TERM", x.more(0, 1), false);
        for (int i = 0; i < 199; i++) {
            push(UNIT, 0);
        }
        x.bytes(0, 8);
        due("more with 200 NODES", x.more(5, 8), true);
    }

    // ---- promise 6 ----

    private static void drop() {
        fresh();
        push(INTEGER, 7, INTEGER, 1, INTEGER, 2, APPLY, 0, LAMBDA, 0, DELAY, 0);
        due("TERMS", x.look(0), 2);
        due("drop", x.drop(), true);
        due("TERMS", x.look(0), 1);
        due("NODES", x.look(1), 1);
        x.run(1, 0);
        due("what is left", x.number(), 7);
        push(BUILTIN, 0, INTEGER, 1, APPLY, 0, BUILTIN, 1, INTEGER, 2, APPLY, 0, APPLY, 0);
        due("NODES", x.look(1), 8);
        due("drop", x.drop(), true);
        due("NODES", x.look(1), 1);
        due("drop", x.drop(), true);
        due("drop", x.drop(), false);
        due("the result stays", x.number(), 7);
    }

    // ---- promise 7 ----

    private static void runRefusals() {
        fresh();
        stateThrows("no TERM", () -> x.run(1, 1));
        stateThrows("state before argument", () -> x.run(-1, 1));
        push(VARIABLE, 1);
        stateThrows("not CLOSED", () -> x.run(1, 1));
        stateThrows("state before argument", () -> x.run(1, 3001));
        push(VARIABLE, 2, LAMBDA, 0);
        stateThrows("not CLOSED", () -> x.run(1, 1));
        push(LAMBDA, 0);
        due("CLOSED", x.run(1, 1), 0);
        argumentThrows("steps -1", () -> x.run(-1, 1));
        argumentThrows("steps 20001", () -> x.run(20001, 1));
        argumentThrows("memory -1", () -> x.run(1, -1));
        argumentThrows("memory 3001", () -> x.run(1, 3001));
        due("the most", x.run(20000, 3000), 0);
        due("the least", x.run(0, 0), 4);
        due("it stays", x.look(0), 2);
        due("it stays", x.look(1), 4);
    }

    private static void runOfEachNode() {
        fresh();
        comesTo(integer(MIN), 0, MIN);
        costs(1, 0, 0);
        comesTo(truth(1), 2, 1);
        comesTo(truth(0), 2, 0);
        comesTo(unit(), 3, 0);
        costs(1, 0, 0);
        comesTo(empty(), 4, 1);
        costs(1, 0, 0);
        comesTo(lambda(error()), 5, 0);
        costs(1, 1, 0);
        comesTo(delay(error()), 6, 0);
        costs(1, 1, 0);
        comesTo(builtin(16), 7, 16);
        costs(1, 1, 0);
        fails(error(), 1);
        costs(1, 0, 0);
        comesTo(force(delay(integer(8))), 0, 8);
        costs(3, 1, 1);
        fails(force(integer(8)), 2);
        costs(2, 0, 1);
        fails(force(lambda(integer(8))), 2);
        fails(force(delay(error())), 1);
        fails(force(error()), 1);
        comesTo(apply(lambda(variable(1)), integer(9)), 0, 9);
        costs(4, 2, 1);
        comesTo(builtin(2, integer(6), integer(7)), 0, 42);
        costs(8, 3, 2);
        comesTo(builtin(2, integer(6)), 7, 2);
        costs(3, 2, 1);
        fails(apply(delay(unit()), unit()), 2);
        costs(3, 1, 1);
        fails(apply(unit(), unit()), 2);
        costs(3, 0, 1);
        // A delay's body has what its surroundings bind.
        comesTo(force(apply(lambda(delay(variable(1))), integer(4))), 0, 4);
        costs(6, 3, 2);
        // A body is not WAITING for anything.
        comesTo(apply(lambda(apply(lambda(force(delay(variable(1)))), variable(1))), unit()), 3, 0);
        costs(9, 5, 1);
    }

    private static void runOrderOfFailures() {
        fresh();
        // The argument is EVALUATED before the function is looked at.
        fails(apply(integer(5), error()), 1);
        costs(3, 0, 1);
        fails(apply(error(), force(unit())), 1);
        costs(2, 0, 1);
        // Kinds are looked at when all VALUES are there, after the STEPS.
        comesTo(builtin(0, unit()), 7, 0);
        fails(builtin(0, unit(), integer(1)), 2);
        costs(8, 2, 2);
        due("STEPS before kinds", runOf(builtin(0, unit(), integer(1)), 7, 10), 4);
        costs(5, 2, 2);
        // A wrong kind before there being no result; both before MEMORY.
        fails(builtin(12, text(""), unit()), 2);
        due("no result before MEMORY", runOf(builtin(3, integer(1), integer(0)), 99, 2), 3);
        due("MEMORY of the result", runOf(builtin(3, integer(1), integer(1)), 99, 2), 5);
        costs(8, 2, 2);
        due("STEP before ERROR", runOf(error(), 0, 0), 4);
        due("STEP before MEMORY", runOf(lambda(unit()), 0, 0), 4);
        fails(builtin(16, integer(1), unit(), unit()), 2);
    }

    private static void runBudgets() {
        fresh();
        Part sum = builtin(0, integer(1), integer(2));
        for (int steps = 0; steps <= 9; steps++) {
            int answer = runOf(sum, steps, 3);
            due("run with STEPS " + steps, answer, steps >= 8 ? 0 : 4);
            due("STEPS", x.look(4), steps >= 8 ? 8 : Math.min(steps, 5));
            due("WAITING", x.look(6), Math.min(steps, 2));
        }
        for (int memory = 0; memory <= 4; memory++) {
            int answer = runOf(sum, 8, memory);
            due("run with MEMORY " + memory, answer, memory >= 3 ? 0 : 5);
            due("MEMORY", x.look(5), Math.min(memory, 3));
        }
        Part call = apply(lambda(unit()), unit());
        due("a CALL", runOf(call, 4, 1), 5);
        costs(3, 1, 1);
        due("a CALL", runOf(call, 3, 2), 4);
        costs(3, 2, 1);
        Part self = lambda(apply(variable(1), variable(1)));
        due("for ever", runOf(apply(self, self), 20000, 3000), 5);
        costs(3 + 3 * 2998, 3000, 1);
        due("for ever", runOf(apply(self, self), 5000, 3000), 4);
        costs(5000, 2 + 1666, 1);
        Part ones = lambda(builtin(0, integer(1), apply(variable(1), variable(1))));
        due("too little STEPS for a sum", runOf(apply(ones, ones), 30, 3000), 4);
    }

    private static void runWaiting() {
        fresh();
        Part deeper = lambda(force(apply(variable(1), variable(1))));
        due("too deep", runOf(apply(deeper, deeper)), 6);
        // 3 to start, then 4 for each level that leaves one more WAITING, and an APPLY of its own.
        due("most", x.look(6), 400);
        due("STEPS", x.look(4), 3 + 399 * 4 + 2);
        due("MEMORY", x.look(5), 2 + 400);
        due("STEPS first", runOf(apply(deeper, deeper), 3 + 399 * 4 + 1, 3000), 4);
        due("most", x.look(6), 400);
        due("not yet", runOf(apply(deeper, deeper), 3 + 398 * 4, 3000), 4);
        due("most", x.look(6), 399);
        Part right = lambda(apply(unit(), apply(variable(1), variable(1))));
        due("arguments", runOf(apply(right, right)), 6);
        due("most", x.look(6), 400);
        Part left = lambda(apply(apply(variable(1), variable(1)), unit()));
        due("functions", runOf(apply(left, left)), 6);
        due("most", x.look(6), 400);
        Part forces = integer(0);
        for (int i = 0; i < 150; i++) {
            forces = force(forces);
        }
        due("FORCES", runOf(forces), 2);
        costs(151, 0, 150);
        due("the most is of the latest run", runOf(unit()), 0);
        costs(1, 0, 0);
    }

    private static void runScopes() {
        fresh();
        Part third = lambda(lambda(lambda(variable(3))));
        Part second = lambda(lambda(lambda(variable(2))));
        Part first = lambda(lambda(lambda(variable(1))));
        comesTo(apply(third, integer(10), integer(20), integer(30)), 0, 10);
        comesTo(apply(second, integer(10), integer(20), integer(30)), 0, 20);
        comesTo(apply(first, integer(10), integer(20), integer(30)), 0, 30);
        // The scope is the one where the LAMBDA stands, not the one where it is CALLED.
        Part keeps = apply(lambda(lambda(variable(2))), integer(1));
        comesTo(apply(lambda(apply(variable(1), integer(2))), keeps), 0, 1);
        // The argument is EVALUATED in the APPLY's scope, once the function has come to its VALUE.
        Part inner = apply(lambda(lambda(variable(1))), integer(5));
        comesTo(apply(lambda(apply(inner, variable(1))), integer(6)), 0, 6);
        Part sixtyFive = integer(65);
        Part deep = variable(65);
        for (int i = 0; i < 65; i++) {
            deep = lambda(deep);
        }
        for (int i = 0; i < 65; i++) {
            deep = apply(deep, i == 0 ? sixtyFive : integer(0));
        }
        comesTo(deep, 0, 65);
    }

    // ---- the BUILTINS ----

    private static void binary(int b, long p, long q, long want) {
        comesTo(builtin(b, integer(p), integer(q)), b >= 7 ? 2 : 0, want);
        costs(8, 3, 2);
    }

    private static void noResult(int b, long p, long q) {
        fails(builtin(b, integer(p), integer(q)), 3);
        costs(8, 2, 2);
    }

    private static void integers() {
        fresh();
        binary(0, 2, -5, -3);
        binary(0, MAX, MIN, -1);
        binary(0, MAX - 1, 1, MAX);
        noResult(0, MAX, 1);
        noResult(0, MIN, -1);
        fresh();
        binary(1, 2, 5, -3);
        binary(1, -1, MIN, MAX);
        binary(1, MIN + 1, 1, MIN);
        noResult(1, 0, MIN);
        noResult(1, MIN, 1);
        noResult(1, MAX, -1);
        fresh();
        binary(2, -3, 7, -21);
        binary(2, 0, MIN, 0);
        binary(2, MIN, 0, 0);
        binary(2, MIN, 1, MIN);
        binary(2, 1L << 62, -2, MIN);
        noResult(2, 1L << 62, 2);
        noResult(2, MIN, -1);
        noResult(2, -1, MIN);
        noResult(2, 1L << 32, 1L << 32);
        noResult(2, MAX, MAX);
        fresh();
        for (long[] q : new long[][] {{7, 2, 3, 1, 3, 1}, {-7, 2, -4, 1, -3, -1},
                {7, -2, -4, -1, -3, 1}, {-7, -2, 3, -1, 3, -1}, {6, -3, -2, 0, -2, 0},
                {MIN, 1, MIN, 0, MIN, 0}, {MIN, MAX, -2, MAX - 1, -1, -1}, {0, -5, 0, 0, 0, 0}}) {
            fresh();
            for (int b = 3; b <= 6; b++) {
                binary(b, q[0], q[1], q[b - 1]);
            }
        }
        fresh();
        for (int b = 3; b <= 6; b++) {
            noResult(b, 5, 0);
            noResult(b, 0, 0);
        }
        noResult(3, MIN, -1);
        noResult(5, MIN, -1);
        binary(4, MIN, -1, 0);
        binary(6, MIN, -1, 0);
        fresh();
        for (long[] p : new long[][] {{1, 1}, {1, 2}, {2, 1}, {MIN, MAX}, {MAX, MIN}, {-1, 0}}) {
            binary(7, p[0], p[1], p[0] == p[1] ? 1 : 0);
            binary(8, p[0], p[1], p[0] < p[1] ? 1 : 0);
            binary(9, p[0], p[1], p[0] <= p[1] ? 1 : 0);
        }
    }

    private static void byteStrings() {
        fresh();
        comesToBytes(builtin(10, text("ab"), text("c")), "abc");
        comesToBytes(builtin(10, text(""), text("")), "");
        comesToBytes(builtin(10, builtin(10, text("x"), text("y")), builtin(10, text("z"), text("w"))), "xyzw");
        fresh();
        comesToBytes(builtin(10, text(repeated('a', 32)), text(repeated('b', 32))),
                repeated('a', 32) + repeated('b', 32));
        fails(builtin(10, text(repeated('a', 32)), text(repeated('b', 33))), 3);
        fresh();
        comesTo(builtin(11, text("")), 0, 0);
        comesTo(builtin(11, text("abc")), 0, 3);
        comesTo(builtin(12, text("a\u00ff"), integer(0)), 0, 97);
        comesTo(builtin(12, text("a\u00ff"), integer(1)), 0, 255);
        for (long i : new long[] {-1, 2, 1L << 32, MIN, MAX}) {
            fails(builtin(12, text("a\u00ff"), integer(i)), 3);
        }
        fresh();
        comesToBytes(builtin(13, integer(1), integer(2), text("abcde")), "bc");
        comesToBytes(builtin(13, integer(-3), integer(2), text("abcde")), "ab");
        comesToBytes(builtin(13, integer(MIN), integer(MAX), text("abcde")), "abcde");
        comesToBytes(builtin(13, integer(3), integer(MAX), text("abcde")), "de");
        comesToBytes(builtin(13, integer(5), integer(1), text("abcde")), "");
        fresh();
        comesToBytes(builtin(13, integer(MAX), integer(MAX), text("abcde")), "");
        comesToBytes(builtin(13, integer(1), integer(-1), text("abcde")), "");
        comesToBytes(builtin(13, integer(1), integer(0), text("abcde")), "");
        comesToBytes(builtin(13, integer(1L << 32), integer(3), text("abcde")), "");
        comesToBytes(builtin(13, integer(0), integer((1L << 32) + 1), text("abcde")), "abcde");
        fresh();
        for (String[] p : new String[][] {{"", ""}, {"", "a"}, {"a", ""}, {"ab", "ab"}, {"ab", "abc"},
                {"abc", "ab"}, {"b", "ab"}, {"\u0080", "\u007f"}, {"\u007f", "\u0080"}, {"aa", "ab"}}) {
            fresh();
            comesTo(builtin(14, text(p[0]), text(p[1])), 2, p[0].equals(p[1]) ? 1 : 0);
            comesTo(builtin(15, text(p[0]), text(p[1])), 2, p[0].compareTo(p[1]) < 0 ? 1 : 0);
        }
    }

    private static void choose() {
        fresh();
        comesTo(builtin(16, truth(1), integer(5), unit()), 0, 5);
        costs(7 + 1 + 3, 4, 3);
        comesTo(builtin(16, truth(0), integer(5), unit()), 3, 0);
        comesTo(builtin(16, truth(0), integer(5), lambda(unit())), 5, 0);
        comesTo(builtin(16, truth(1), builtin(3), lambda(unit())), 7, 3);
        comesToBytes(builtin(16, truth(1), text("0123456789abcdef"), unit()), "0123456789abcdef");
        costs(7 + 1 + 3 + 2, 3 + 3, 3);
        comesTo(force(builtin(16, truth(1), delay(integer(1)), delay(error()))), 0, 1);
        comesTo(apply(builtin(16, truth(0), unit(), lambda(variable(1))), integer(4)), 0, 4);
    }

    private static void dataBuiltins() {
        fresh();
        comesToData(dataInteger(MIN), "i" + MIN + "/1");
        comesToData(dataText("ab"), "b2:97.98/1");
        comesToData(empty(), "l0/1");
        comesToData(list(dataInteger(1), list(), dataText("\u00ff")), "l3/2 i1/1 l0/1 b1:255/1");
        comesToData(constructor(127, dataInteger(4)), "c1#127/2 i4/1");
        comesToData(constructor(0), "c0#0/1");
        fails(constructor(128), 3);
        fails(constructor(-1), 3);
        fails(constructor(1L << 32), 3);
        comesToData(map(dataInteger(1), list(dataInteger(2))), "m1/3 i1/1 l1/2 i2/1");
        comesToData(map(), "m0/1");
        fails(map(dataInteger(1)), 3);
        fails(map(dataInteger(1), dataInteger(1), dataInteger(1)), 3);
        fresh();
        comesToData(builtin(20, constructor(3, dataInteger(1), list())), "l2/2 i1/1 l0/1");
        comesTo(builtin(19, constructor(77, dataInteger(1))), 0, 77);
        comesTo(builtin(24, dataInteger(MAX)), 0, MAX);
        comesToBytes(builtin(25, dataText("xyz")), "xyz");
        comesToData(builtin(26, list(list(dataInteger(5)), dataInteger(6))), "l1/2 i5/1");
        comesToData(builtin(27, list(list(dataInteger(5)), dataInteger(6))), "l1/2 i6/1");
        comesToData(builtin(27, list(list(dataInteger(5)))), "l0/1");
        fails(builtin(26, empty()), 3);
        fails(builtin(27, empty()), 3);
        comesTo(builtin(29, empty()), 2, 1);
        comesTo(builtin(29, list(dataInteger(5))), 2, 0);
        comesToData(builtin(31, map(dataInteger(1), dataText("a"), list(), dataInteger(2))),
                "l4/2 i1/1 b1:97/1 l0/1 i2/1");
        fresh();
        Part[] forms = {constructor(1), map(), list(), dataInteger(0), dataText("")};
        for (int i = 0; i < forms.length; i++) {
            comesTo(builtin(18, forms[i]), 0, i);
            for (int j = 0; j < forms.length; j++) {
                comesTo(builtin(17, forms[i], forms[j]), 2, i == j ? 1 : 0);
            }
        }
        fresh();
        comesTo(builtin(17, constructor(1), constructor(2)), 2, 0);
        comesTo(builtin(17, dataInteger(1), dataInteger(1L << 32)), 2, 0);
        comesTo(builtin(17, dataText("ab"), dataText("ac")), 2, 0);
        comesTo(builtin(17, dataText("ab"), builtin(23, builtin(10, text("a"), text("b")))), 2, 1);
        comesTo(builtin(17, list(list(), list(list())), list(list(list()), list())), 2, 0);
        comesTo(builtin(17, list(list(dataInteger(1)), list()), list(list(), list(dataInteger(1)))), 2, 0);
        comesTo(builtin(17, list(list(dataText("q")), list()), list(list(dataText("q")), list())), 2, 1);
        comesTo(builtin(17, map(list(), dataInteger(1)), map(dataInteger(1), list())), 2, 0);
    }

    /** Applies a function n times over to what comes before, within few NODES. */
    private static Part nested(int n, Part start, Part step) {
        Part inner = start;
        for (int i = 0; i < n; i++) {
            inner = apply(step, inner);
        }
        return inner;
    }

    private static void dataLimits() {
        fresh();
        // EMPTY has DEPTH 1, a LIST of it 2.
        Part within = lambda(builtin(28, variable(1), empty()));
        comesTo(nested(11, empty(), within), 4, 12);
        due("DEPTH", x.data(0, 3), 12);
        due("DEPTH of the innermost", x.data(11, 3), 1);
        fails(nested(12, empty(), within), 3);
        comesTo(builtin(28, empty(), nested(11, empty(), within)), 4, 13);
        due("DEPTH", x.data(0, 3), 12);
        comesTo(builtin(21, integer(1), nested(11, empty(), within)), 4, 12);
        comesTo(builtin(27, builtin(28, nested(10, empty(), within), list(empty()))), 4, 2);
        due("DEPTH of the others", x.data(0, 3), 2);
        fresh();
        // x -> x ahead of x: twice the NODES, until there are 200.
        Part twice = lambda(builtin(28, variable(1), variable(1)));
        Part half = nested(6, empty(), twice);
        comesTo(half, 4, 64);
        comesTo(builtin(28, half, half), 4, 128);
        Part three = apply(lambda(builtin(28, variable(1), builtin(28, variable(1), variable(1)))), half);
        comesTo(three, 4, 192);
        Part eight = nested(3, empty(), twice);
        fresh();
        comesTo(builtin(28, eight, three), 4, 200);
        fails(builtin(28, builtin(28, empty(), eight), three), 3);
        comesTo(builtin(18, builtin(28, eight, three)), 0, 2);
        due("run", runOf(builtin(28, eight, three)), 0);
        due("the last NODE", x.data(199, 0), 2);
        due("behind it", x.data(200, 0), -1);
    }

    private static void sizes() {
        fresh();
        for (int n : new int[] {0, 7, 8, 15, 16, 63, 64}) {
            due("run", runOf(builtin(11, text(repeated('a', n)))), 0);
            costs(3 + 1 + 1 + n / 8, 2, 1);
        }
        fresh();
        due("run", runOf(builtin(10, text("1234567"), text("1"))), 0);
        costs(5 + 1 + 1 + 1, 2 + 2, 2);
        due("run", runOf(builtin(23, text("1234567"))), 0);
        costs(3 + 1 + 1, 1 + 1, 1);
        due("run", runOf(builtin(23, text("12345678"))), 0);
        costs(3 + 1 + 2, 1 + 2, 1);
        // Of all its bytes an eighth: 7 and 1 make one more, though neither does alone.
        Part seven = dataText("1234567");
        Part one = dataText("1");
        due("run", runOf(builtin(28, seven, empty())), 0);
        costs(4 + 3 + 2 + 1 + 1 + 1, 2 + 2 + 2, 3);
        due("run", runOf(list(one, seven)), 0);
        int steps = x.look(4);
        int memory = x.look(5);
        due("run", runOf(builtin(18, list(one, seven))), 0);
        costs(steps + 2 + 1 + 4, memory + 1 + 1, 5);
        due("run", runOf(builtin(27, list(one, seven))), 0);
        costs(steps + 2 + 1 + 4, memory + 1 + 2, 5);
        due("run", runOf(builtin(26, list(seven, one))), 0);
        costs(steps + 2 + 1 + 4, memory + 1 + 1, 5);
        due("run", runOf(builtin(21, integer(1), list(one, seven))), 0);
        costs(steps + 4 + 1 + 1 + 4, memory + 2 + 4, 5);
    }

    /** For each BUILTIN VALUES that it takes; any other kind in any place, but "v", fails (2). */
    private static void kindsTaken() {
        Part[] samples = {integer(1), text("ab"), truth(1), unit(), constructor(1, dataInteger(2)),
            map(dataInteger(3), dataInteger(4)), list(dataInteger(5), list()), dataInteger(6), dataText("c"),
            lambda(unit()), delay(unit()), builtin(0, unit())};
        String[] takes = {"i i", "i i", "i i", "i i", "i i", "i i", "i i", "i i", "i i", "i i", "s s", "s",
            "s i", "i i s", "s s", "s s", "t v v", "d d", "d", "c", "c", "i l", "i", "s", "n", "b", "l", "l",
            "d l", "l", "l", "m"};
        for (int b = 0; b < 32; b++) {
            String[] letters = takes[b].split(" ");
            for (int place = 0; place < letters.length; place++) {
                for (int s = 0; s < samples.length; s++) {
                    fresh();
                    Part[] arguments = new Part[letters.length];
                    for (int i = 0; i < letters.length; i++) {
                        arguments[i] = samples[i == place ? s : sampleFor(letters[i])];
                    }
                    boolean fit = fitting(letters[place]).indexOf("isTucmldbLDB".charAt(s)) >= 0;
                    due("BUILTIN " + b + ", place " + place + ", VALUE " + s,
                            runOf(builtin(b, arguments)), fit ? 0 : 2);
                    due("one VALUE fewer", runOf(builtin(b, Arrays.copyOf(arguments, letters.length - 1))), 0);
                    due("kind", x.kind(), 7);
                    due("number", x.number(), b);
                }
            }
        }
    }

    private static int sampleFor(String letter) {
        switch (letter) {
            case "s": return 1;
            case "t": return 2;
            case "c": return 4;
            case "m": return 5;
            case "l": return 6;
            case "d": return 6;
            case "n": return 7;
            case "b": return 8;
            default: return 0;
        }
    }

    private static String fitting(String letter) {
        switch (letter) {
            case "t": return "T";
            case "n": return "d";
            case "v": return "isTucmldbLDB";
            case "d": return "cmldb";
            default: return letter;
        }
    }

    // ---- promises 8 and 9 ----

    private static void kindAndNumber() {
        fresh();
        comesTo(integer(-5), 0, -5);
        comesTo(text("abc"), 1, 3);
        comesTo(truth(1), 2, 1);
        comesTo(unit(), 3, 0);
        comesTo(list(dataInteger(9), dataText("abc")), 4, 3);
        comesTo(dataInteger(9), 4, 1);
        comesTo(lambda(integer(7)), 5, 0);
        comesTo(delay(integer(7)), 6, 0);
        comesTo(builtin(31), 7, 31);
        comesTo(builtin(13, integer(7), integer(8)), 7, 13);
        fails(error(), 1);
        comesTo(unit(), 3, 0);
    }

    // ---- promise 10 ----

    private static void byteAt() {
        fresh();
        comesToBytes(text("\u0000\u007f\u0080\u00ff"), "\u0000\u007f\u0080\u00ff");
        due("-1", x.byteAt(-1), -1);
        due("MIN", x.byteAt(Integer.MIN_VALUE), -1);
        due("MAX", x.byteAt(Integer.MAX_VALUE), -1);
        comesTo(integer(5), 0, 5);
        due("of an INTEGER", x.byteAt(0), -1);
        comesTo(dataText("a"), 4, 1);
        due("of DATA", x.byteAt(0), -1);
        fails(error(), 1);
        due("without a result", x.byteAt(0), -1);
    }

    // ---- promise 11 ----

    private static void data() {
        fresh();
        Part all = constructor(9, map(dataInteger(-1), list(dataText("xy"), dataInteger(5))), dataText(""), list());
        comesToData(all, "c3#9/4 m1/3 i-1/1 l2/2 b2:120.121/1 i5/1 b0/1 l0/1");
        due("number", x.number(), 8);
        for (int k = 0; k < 8; k++) {
            due("w -1", x.data(k, -1), -1);
            due("w 4", x.data(k, 4), -1);
            due("number of another", x.data(k, 2), k == 0 ? 9 : -1);
        }
        due("an INTEGER has no count", x.data(2, 1), -1);
        for (int w = 0; w <= 3; w++) {
            due("k -1", x.data(-1, w), -1);
            due("k 8", x.data(8, w), -1);
            due("k MIN", x.data(Integer.MIN_VALUE, w), -1);
            due("k MAX", x.data(Integer.MAX_VALUE, w), -1);
        }
        comesTo(text("a"), 1, 1);
        due("of BYTES", x.data(0, 0), -1);
        fails(error(), 1);
        due("without a result", x.data(0, 0), -1);
    }

    // ---- promises 12 and 13 ----

    private static void dataValueAndByte() {
        fresh();
        comesTo(list(dataInteger(MAX), dataText("\u00ffz"), list(dataInteger(MIN))), 4, 5);
        due("1", x.dataValue(1), MAX);
        due("4", x.dataValue(4), MIN);
        for (int k : new int[] {-1, 0, 2, 3, 5, Integer.MAX_VALUE, Integer.MIN_VALUE}) {
            stateThrows("dataValue " + k, () -> x.dataValue(k));
        }
        due("2, 0", x.dataByte(2, 0), 255);
        due("2, 1", x.dataByte(2, 1), 'z');
        for (int j : new int[] {-1, 2, Integer.MAX_VALUE, Integer.MIN_VALUE}) {
            due("dataByte 2 " + j, x.dataByte(2, j), -1);
        }
        for (int k : new int[] {-1, 0, 1, 3, 4, 5, Integer.MAX_VALUE, Integer.MIN_VALUE}) {
            due("dataByte " + k, x.dataByte(k, 0), -1);
        }
        comesTo(integer(5), 0, 5);
        stateThrows("of an INTEGER", () -> x.dataValue(0));
        comesTo(text("a"), 1, 1);
        due("of BYTES", x.dataByte(0, 0), -1);
        fails(error(), 1);
        stateThrows("without a result", () -> x.dataValue(0));
        due("without a result", x.dataByte(0, 0), -1);
    }

    // ---- promise 14 ----

    private static void look() {
        fresh();
        push(VARIABLE, 200);
        due("lacks", x.look(2), 200);
        push(LAMBDA, 0);
        due("lacks", x.look(2), 199);
        push(VARIABLE, 3, VARIABLE, 5, APPLY, 0, LAMBDA, 0, DELAY, 0, FORCE, 0);
        due("lacks", x.look(2), 4);
        push(VARIABLE, 7, VARIABLE, 2, APPLY, 0);
        due("lacks of the function", x.look(2), 7);
        push(APPLY, 0);
        due("the most of both", x.look(2), 7);
        push(UNIT, 0);
        due("of the last TERM alone", x.look(2), 0);
        push(LAMBDA, 0, LAMBDA, 0);
        due("none below 0", x.look(2), 0);
        push(VARIABLE, 1, LAMBDA, 0, LAMBDA, 0, VARIABLE, 1, APPLY, 0);
        due("bound within, not beside", x.look(2), 1);
        due("TERMS", x.look(0), 4);
        due("NODES", x.look(1), 20);
        for (int which : new int[] {-1, 7, Integer.MAX_VALUE, Integer.MIN_VALUE}) {
            due("look " + which, x.look(which), -1);
        }
        for (int which = 3; which <= 6; which++) {
            due("without a run", x.look(which), -1);
        }
        fails(apply(unit(), unit()), 2);
        due("answer", x.look(3), 2);
        costs(3, 0, 1);
        comesTo(unit(), 3, 0);
        due("answer", x.look(3), 0);
        costs(1, 0, 0);
    }

    // ---- what holds of all of them ----

    private static void resultOutlivesItsTerm() {
        fresh();
        comesToBytes(text("abc"), "abc");
        x.more('d', 1);
        due("after more", x.number(), 3);
        x.clear();
        x.bytes('z', 1);
        due("after other BYTES", x.byteAt(0), 'a');
        comesToData(list(dataText("abc")), "l1/2 b3:97.98.99/1");
        x.clear();
        for (int i = 0; i < 20; i++) {
            x.bytes(-1, 8);
        }
        due("after other BYTES", x.dataByte(1, 2), 'c');
        stateThrows("run", () -> {
            x.node(VARIABLE, 1);
            return x.run(1, 1);
        });
        due("after a refused run", x.dataByte(1, 2), 'c');
    }

    private static void refusalsChangeNothing() {
        fresh();
        comesTo(integer(12), 0, 12);
        push(VARIABLE, 4);
        Call[] refused = {() -> x.node(8, 0), () -> x.node(VARIABLE, 0), () -> x.bytes(0, 9),
            () -> x.run(5, 5), () -> x.dataValue(0), () -> x.more(0, 1) ? 1 : 0, () -> x.byteAt(0)};
        for (Call call : refused) {
            told(call);
            due("TERMS", x.look(0), 2);
            due("NODES", x.look(1), 2);
            due("lacks", x.look(2), 4);
            due("answer", x.look(3), 0);
            costs(1, 0, 0);
            due("number", x.number(), 12);
        }
        x.drop();
        argumentThrows("run", () -> x.run(20001, 0));
        due("number", x.number(), 12);
        due("answer", x.look(3), 0);
    }
}
