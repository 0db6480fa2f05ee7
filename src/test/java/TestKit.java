import java.util.Arrays;
import java.util.function.UnaryOperator;

/** What the tests of the project share: how they build TERMS, run them and tell what is wrong. */
abstract class TestKit {
    static final int VARIABLE = 0;
    static final int LAMBDA = 1;
    static final int APPLY = 2;
    static final int DELAY = 3;
    static final int FORCE = 4;
    static final int ERROR = 5;
    static final int BUILTIN = 6;
    static final int INTEGER = 7;
    static final int TRUTH = 9;
    static final int UNIT = 10;
    static final int EMPTY = 11;

    static final int NONE = -1;
    static final int ALL_STEPS = 20000;
    static final int ALL_MEMORY = 3000;
    static final long MIN = Long.MIN_VALUE;
    static final long MAX = Long.MAX_VALUE;

    private static final int MOST_SECONDS = 240;

    /** The object that the calls of the test go to. */
    static CekMachine x = new CekMachine();

    private static int wrong = 0;

    static {
        watch();
    }

    interface Call {
        long answer();
    }

    /** A TERM that can be pushed, with so many LAMBDAS around it. */
    interface Part {
        void push(CekMachine machine, int lambdas);
    }

    /** A call that never ends has to fail the test too. */
    private static void watch() {
        Thread watch = new Thread(() -> {
            try {
                Thread.sleep(MOST_SECONDS * 1000L);
            } catch (InterruptedException e) {
                return;
            }
            System.out.println("the test does not end");
            Runtime.getRuntime().halt(1);
        });
        watch.setDaemon(true);
        watch.start();
    }

    // ---- what is due ----

    static void due(String what, long got, long want) {
        due(what, Long.toString(got), Long.toString(want));
    }

    static void due(String what, boolean got, boolean want) {
        due(what, Boolean.toString(got), Boolean.toString(want));
    }

    static void due(String what, String got, String want) {
        if (!got.equals(want)) {
            wrong++;
            System.out.println(where() + ": " + what + " answered " + got + ", due is " + want);
        }
    }

    /** The line of the test, not of what it calls. */
    private static String where() {
        String where = "main";
        for (StackTraceElement e : new Throwable().getStackTrace()) {
            if (!e.getMethodName().equals("main")) {
                where = e.getMethodName() + ", line " + e.getLineNumber();
            }
        }
        return where;
    }

    static int wrongSoFar() {
        return wrong;
    }

    static void finish() {
        System.out.println(wrong == 0 ? "all answers are as due" : wrong + " answers are not as due");
        if (wrong != 0) {
            System.exit(1);
        }
    }

    /** The answer, or the name of what is thrown. */
    static String told(Call call) {
        try {
            return Long.toString(call.answer());
        } catch (RuntimeException e) {
            return e.getClass().getSimpleName();
        }
    }

    static void argumentThrows(String what, Call call) {
        due(what, told(call), "IllegalArgumentException");
    }

    static void stateThrows(String what, Call call) {
        due(what, told(call), "IllegalStateException");
    }

    // ---- TERMS ----

    static void fresh() {
        x = new CekMachine();
    }

    /** Pushes NODES: kind, arg, kind, arg .. */
    static void push(long... kindsAndArgs) {
        for (int i = 0; i + 1 < kindsAndArgs.length; i += 2) {
            x.node((int) kindsAndArgs[i], kindsAndArgs[i + 1]);
        }
    }

    static Part leaf(int kind, long arg) {
        return (machine, lambdas) -> machine.node(kind, arg);
    }

    static Part integer(long n) {
        return leaf(INTEGER, n);
    }

    static Part truth(int t) {
        return leaf(TRUTH, t);
    }

    static Part unit() {
        return leaf(UNIT, 0);
    }

    static Part empty() {
        return leaf(EMPTY, 0);
    }

    static Part error() {
        return leaf(ERROR, 0);
    }

    static Part variable(int i) {
        return leaf(VARIABLE, i);
    }

    /** BYTES, in as few calls as can be. */
    static Part text(String text) {
        return (machine, lambdas) -> {
            int first = Math.min(8, text.length());
            machine.bytes(packed(text, 0, first), first);
            for (int at = first; at < text.length(); at += 8) {
                int n = Math.min(8, text.length() - at);
                due("more", machine.more(packed(text, at, n), n), true);
            }
        };
    }

    private static long packed(String text, int from, int n) {
        long part = 0;
        for (int i = from; i < from + n; i++) {
            part = part << 8 | text.charAt(i);
        }
        return part;
    }

    private static Part around(int kind, Part body, int more) {
        return (machine, lambdas) -> {
            body.push(machine, lambdas + more);
            machine.node(kind, 0);
        };
    }

    static Part lambda(Part body) {
        return around(LAMBDA, body, 1);
    }

    static Part delay(Part body) {
        return around(DELAY, body, 0);
    }

    static Part force(Part body) {
        return around(FORCE, body, 0);
    }

    static Part forces(int n, Part body) {
        Part part = body;
        for (int i = 0; i < n; i++) {
            part = force(part);
        }
        return part;
    }

    /** A LAMBDA whose body is told its VARIABLE, however many LAMBDAS come in between. */
    static Part fun(UnaryOperator<Part> body) {
        return (machine, around) -> {
            Part bound = (m, lambdas) -> m.node(VARIABLE, lambdas - around);
            lambda(body.apply(bound)).push(machine, around);
        };
    }

    static Part let(Part value, UnaryOperator<Part> body) {
        return apply(fun(body), value);
    }

    static Part apply(Part function, Part... arguments) {
        return (machine, lambdas) -> {
            function.push(machine, lambdas);
            for (Part argument : arguments) {
                argument.push(machine, lambdas);
                machine.node(APPLY, 0);
            }
        };
    }

    static Part builtin(int b, Part... arguments) {
        return apply(leaf(BUILTIN, b), arguments);
    }

    static Part dataInteger(long n) {
        return builtin(22, integer(n));
    }

    static Part dataText(String s) {
        return builtin(23, text(s));
    }

    static Part ahead(Part first, Part list) {
        return builtin(28, first, list);
    }

    static Part list(Part... parts) {
        Part list = empty();
        for (int i = parts.length - 1; i >= 0; i--) {
            list = ahead(parts[i], list);
        }
        return list;
    }

    static Part constructor(long number, Part... fields) {
        return builtin(21, integer(number), list(fields));
    }

    static Part map(Part... keysAndValues) {
        return builtin(30, list(keysAndValues));
    }

    static String repeated(char c, int n) {
        char[] chars = new char[n];
        Arrays.fill(chars, c);
        return new String(chars);
    }

    // ---- runs ----

    static int runOf(Part part) {
        return runOf(part, ALL_STEPS, ALL_MEMORY);
    }

    static int runOf(Part part, int steps, int memory) {
        x.clear();
        part.push(x, 0);
        return x.run(steps, memory);
    }

    static void comesTo(Part part, int kind, long number) {
        due("run", runOf(part), 0);
        due("kind", x.kind(), kind);
        due("number", told(() -> x.number()), Long.toString(number));
    }

    static void fails(Part part, int why) {
        due("run", runOf(part), why);
        due("kind", x.kind(), NONE);
        stateThrows("number", () -> x.number());
    }

    static void costs(int steps, int memory, int waiting) {
        due("STEPS", x.look(4), steps);
        due("MEMORY", x.look(5), memory);
        due("WAITING", x.look(6), waiting);
    }

    static void comesToBytes(Part part, String want) {
        comesTo(part, 1, want.length());
        for (int i = 0; i < want.length(); i++) {
            due("byteAt", x.byteAt(i), want.charAt(i));
        }
        due("byteAt behind", x.byteAt(want.length()), NONE);
    }

    static void comesToData(Part part, String want) {
        due("run", runOf(part), 0);
        due("kind", x.kind(), 4);
        due("DATA", shown(x, 200), want);
    }

    /** The first NODES of the result, DATA, as text: form, count or value, number, bytes, DEPTH. */
    static String shown(CekMachine machine, int nodes) {
        StringBuilder out = new StringBuilder();
        for (int k = 0; k < nodes && machine.data(k, 0) != NONE; k++) {
            int form = machine.data(k, 0);
            out.append(k == 0 ? "" : " ").append("cmlib".charAt(form));
            out.append(form == 3 ? machine.dataValue(k) : machine.data(k, 1));
            out.append(form == 0 ? "#" + machine.data(k, 2) : "");
            for (int j = 0; j < 66 && machine.dataByte(k, j) != NONE; j++) {
                out.append(j == 0 ? ':' : '.').append(machine.dataByte(k, j));
            }
            out.append('/').append(machine.data(k, 3));
        }
        return out.toString();
    }
}
