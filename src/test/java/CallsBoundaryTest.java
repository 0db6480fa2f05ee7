import java.util.ArrayList;
import java.util.LinkedHashMap;
import java.util.List;
import java.util.Map;
import java.util.function.Consumer;
import java.util.function.ToLongFunction;

/**
 * The boundary cases of promises 1 to 14: the last input that is still allowed, the first that is
 * not, what the call answers or throws, and that a refused call has changed nothing.
 */
public final class CallsBoundaryTest extends TestKit {
    private static final String ARGUMENT = "IllegalArgumentException";
    private static final String STATE = "IllegalStateException";
    private static final String FALSE = "0";
    private static final String NOTHING = "-1";

    private static final int LEAST = Integer.MIN_VALUE;
    private static final int GREATEST = Integer.MAX_VALUE;
    private static final long TWO_TO_32 = 1L << 32;

    private static final String SIXTY_FOUR = repeated('p', 31) + "\u0000\u007f\u0080\u00ff" + repeated('q', 28) + "z";

    private static final int PROBES = 5;

    private static final ToLongFunction<CekMachine> DROP = m -> m.drop() ? 1 : 0;
    private static final ToLongFunction<CekMachine> MORE = m -> m.more('c', 1) ? 1 : 0;

    public static void main(String[] args) {
        newObject();
        objectsApart();
        clearOfNothing();
        clearOfTwoHundredNodes();
        nodeKinds();
        nodeArgs();
        nodeWithTooFewTerms();
        nodeWithTwoHundredNodes();
        nodeFirstException();
        bytesHowMany();
        bytesWithTwoHundredNodes();
        moreHowMany();
        moreUpToSixtyFour();
        moreOfOtherTerms();
        dropOfNothing();
        dropOfTheLast();
        runBudgets();
        runWithoutClosedTerm();
        runAnswers();
        runLeavesTheTerm();
        kindAndNumberOfEach();
        byteAtEnds();
        dataEnds();
        dataOfEachForm();
        dataInTurn();
        dataValueEnds();
        dataByteEnds();
        readingOtherKinds();
        lookEnds();
        lookWithoutARun();
        refusedCallsInEachState();
        fiveHundredAndTwelveCalls();
        finish();
    }

    // ---- states, and what can be seen of them ----

    private static CekMachine made(Consumer<CekMachine> state) {
        CekMachine machine = new CekMachine();
        state.accept(machine);
        return machine;
    }

    private static Consumer<CekMachine> pushed(Part... parts) {
        return machine -> {
            for (Part part : parts) {
                part.push(machine, 0);
            }
        };
    }

    private static Consumer<CekMachine> ran(Part part) {
        return machine -> {
            part.push(machine, 0);
            machine.run(ALL_STEPS, ALL_MEMORY);
        };
    }

    private static Part[] units(int n) {
        Part[] units = new Part[n];
        for (int i = 0; i < n; i++) {
            units[i] = unit();
        }
        return units;
    }

    /** All that can be seen of a state, or of what a call makes of it. */
    private static String seen(Consumer<CekMachine> state, ToLongFunction<CekMachine> call) {
        StringBuilder out = new StringBuilder();
        for (int probe = 0; probe < PROBES; probe++) {
            // A new object for each, as what is promised ends with the 512th call.
            CekMachine machine = made(state);
            if (call != null) {
                told(() -> call.applyAsLong(machine));
            }
            out.append(probe).append(": ");
            probe(machine, probe, out);
        }
        return out.toString();
    }

    private static void probe(CekMachine machine, int probe, StringBuilder out) {
        switch (probe) {
            case 0:
                looks(machine, out);
                result(machine, 65, 12, out);
                break;
            case 1:
                for (int i = 0; i < 40 && machine.look(0) > 0; i++) {
                    out.append(machine.look(0)).append('/').append(machine.look(1)).append('/');
                    out.append(machine.look(2)).append(' ').append(machine.drop());
                }
                break;
            case 2:
                for (int i = 0; i < 201 && machine.drop(); i++) {
                    out.append('.');
                }
                looks(machine, out);
                break;
            case 3:
                for (int i = 0; i < 4 && machine.look(0) > 0; i++) {
                    out.append(told(() -> machine.run(ALL_STEPS, ALL_MEMORY)));
                    looks(machine, out);
                    result(machine, 20, 3, out);
                    machine.drop();
                }
                break;
            default:
                out.append(told(() -> machine.more('m', 1) ? 1 : 0));
                out.append(told(() -> machine.node(DELAY, 0)));
                out.append(told(() -> machine.bytes('b', 1)));
                out.append(told(() -> machine.more('m', 1) ? 1 : 0));
                looks(machine, out);
                break;
        }
    }

    private static void looks(CekMachine machine, StringBuilder out) {
        for (int which = 0; which <= 6; which++) {
            out.append(' ').append(machine.look(which));
        }
        out.append(';');
    }

    private static void result(CekMachine machine, int bytes, int nodes, StringBuilder out) {
        out.append(machine.kind()).append(' ').append(told(() -> machine.number()));
        for (int k = 0; k < bytes; k++) {
            out.append(' ').append(machine.byteAt(k));
        }
        out.append(';').append(shown(machine, nodes)).append(';');
    }

    /** The call is refused as is due, and all is as if it had not been made. */
    private static void refuses(
            String what, Consumer<CekMachine> state, ToLongFunction<CekMachine> call, String answer) {
        CekMachine machine = made(state);
        due(what, told(() -> call.applyAsLong(machine)), answer);
        due(what + ", and what can be seen then", seen(state, call), seen(state, null));
    }

    private static CekMachine allows(
            String what, Consumer<CekMachine> state, ToLongFunction<CekMachine> call, long answer) {
        CekMachine machine = made(state);
        due(what, told(() -> call.applyAsLong(machine)), Long.toString(answer));
        return machine;
    }

    private static final Consumer<CekMachine> NEW = machine -> { };
    private static final Consumer<CekMachine> TWO_TERMS = pushed(integer(5), text("ab"));
    private static final Consumer<CekMachine> FULL_OF_TERMS = pushed(units(200));
    private static final Consumer<CekMachine> FULL_OF_ONE_TERM = pushed(delays(199));
    private static final Consumer<CekMachine> FULL_WITH_BYTES = pushed(delays(197), text("abcdefgh"), unit());

    private static Part delays(int n) {
        Part part = unit();
        for (int i = 0; i < n; i++) {
            part = delay(part);
        }
        return part;
    }

    // ---- promise 1 ----

    /** "No TERMS; no result." */
    private static void newObject() {
        for (int kind : new int[] {LAMBDA, APPLY, DELAY, FORCE}) {
            refuses("node " + kind, NEW, m -> m.node(kind, 0), STATE);
        }
        refuses("more", NEW, MORE, FALSE);
        refuses("drop", NEW, DROP, FALSE);
        refuses("run", NEW, m -> m.run(1, 1), STATE);
        refuses("kind", NEW, m -> m.kind(), NOTHING);
        refuses("number", NEW, m -> m.number(), STATE);
        refuses("byteAt", NEW, m -> m.byteAt(0), NOTHING);
        for (int w = 0; w <= 3; w++) {
            int which = w;
            refuses("data 0 " + w, NEW, m -> m.data(0, which), NOTHING);
        }
        refuses("dataValue", NEW, m -> m.dataValue(0), STATE);
        refuses("dataByte", NEW, m -> m.dataByte(0, 0), NOTHING);
        for (int which = 2; which <= 6; which++) {
            int w = which;
            refuses("look " + which, NEW, m -> m.look(w), NOTHING);
        }
        allows("TERMS", NEW, m -> m.look(0), 0);
        allows("NODES", NEW, m -> m.look(1), 0);
        allows("the first NODE", NEW, m -> m.node(UNIT, 0), 1);
        allows("the first BYTES", NEW, m -> m.bytes(0, 0), 1);
    }

    private static void objectsApart() {
        CekMachine one = made(ran(integer(1)));
        CekMachine other = made(ran(list(dataText("abc"))));
        made(FULL_OF_TERMS).clear();
        due("number of the one", one.number(), 1);
        due("number of the other", other.number(), 2);
        due("byte of the other", other.dataByte(1, 2), 'c');
        due("NODES of the one", one.look(1), 1);
    }

    // ---- promise 2 ----

    /** "THE STACK of TERMS is empty", also if it was. */
    private static void clearOfNothing() {
        ToLongFunction<CekMachine> clear = m -> {
            m.clear();
            return 0;
        };
        due("clear of a new object", seen(NEW, clear), seen(NEW, null));
        Consumer<CekMachine> result = ran(text(SIXTY_FOUR)).andThen(m -> m.drop());
        due("clear with a result", seen(result, clear), seen(result, null));
    }

    /** ".. which has up to 200 NODES together". */
    private static void clearOfTwoHundredNodes() {
        for (Consumer<CekMachine> full : List.of(FULL_OF_TERMS, FULL_OF_ONE_TERM, FULL_WITH_BYTES)) {
            CekMachine machine = made(full);
            machine.clear();
            due("TERMS", machine.look(0), 0);
            due("NODES", machine.look(1), 0);
            due("LAMBDAS that the last TERM lacks", machine.look(2), NONE);
            stateThrows("run", () -> machine.run(1, 1));
            stateThrows("node", () -> machine.node(LAMBDA, 0));
            due("more", machine.more(1, 1), false);
            due("drop", machine.drop(), false);
            for (int i = 1; i <= 200; i++) {
                due("node " + i, machine.node(TRUTH, 1), i);
            }
            stateThrows("node 201", () -> machine.node(TRUTH, 1));
        }
        // BYTES that come where others were have none of these.
        CekMachine machine = made(pushed(text(SIXTY_FOUR)));
        machine.clear();
        machine.bytes(7, 1);
        machine.run(1, 0);
        due("how many BYTES", machine.number(), 1);
        due("the only one", machine.byteAt(0), 7);
        due("none behind it", machine.byteAt(1), NONE);
    }

    // ---- promise 3 ----

    /** "IllegalArgumentException if there is no such kind". */
    private static void nodeKinds() {
        for (int kind : new int[] {LEAST, -256, -1, 8, 12, 13, 256, GREATEST}) {
            for (long arg : new long[] {0, 1}) {
                refuses("node " + kind + " " + arg, TWO_TERMS, m -> m.node(kind, arg), ARGUMENT);
            }
        }
        allows("the least kind", TWO_TERMS, m -> m.node(0, 1), 3);
        allows("the greatest kind", TWO_TERMS, m -> m.node(11, 0), 3);
    }

    /** "VARIABLE (arg 1 .. 200)", BUILTIN 0 .. 31, "TRUTH (0, 1)", "arg is 0 where nothing is said". */
    private static void nodeArgs() {
        long[][] allowed = {{VARIABLE, 1, 200, 3}, {LAMBDA, 0, 0, 2}, {APPLY, 0, 0, 1}, {DELAY, 0, 0, 2},
            {FORCE, 0, 0, 2}, {ERROR, 0, 0, 3}, {BUILTIN, 0, 31, 3}, {TRUTH, 0, 1, 3}, {UNIT, 0, 0, 3},
            {EMPTY, 0, 0, 3}};
        for (long[] row : allowed) {
            int kind = (int) row[0];
            for (long arg : new long[] {row[1], row[2]}) {
                allows("node " + kind + " " + arg, TWO_TERMS, m -> m.node(kind, arg), row[3]);
            }
            for (long arg : new long[] {row[1] - 1, row[2] + 1, MIN, MAX, row[1] + TWO_TO_32, row[2] - TWO_TO_32,
                row[1] + 256}) {
                if (arg < row[1] || arg > row[2]) {
                    refuses("node " + kind + " " + arg, TWO_TERMS, m -> m.node(kind, arg), ARGUMENT);
                }
            }
        }
        for (long arg : new long[] {MIN, MIN + 1, -TWO_TO_32, -1, 0, 1, TWO_TO_32, MAX - 1, MAX}) {
            CekMachine machine = allows("INTEGER " + arg, TWO_TERMS, m -> m.node(INTEGER, arg), 3);
            machine.run(1, 0);
            due("number", machine.number(), arg);
        }
        for (int b : new int[] {0, 31}) {
            CekMachine machine = allows("BUILTIN " + b, NEW, m -> m.node(BUILTIN, b), 1);
            machine.run(1, 1);
            due("number", machine.number(), b);
        }
        for (int i : new int[] {1, 200}) {
            CekMachine machine = allows("VARIABLE " + i, NEW, m -> m.node(VARIABLE, i), 1);
            due("LAMBDAS that it lacks", machine.look(2), i);
        }
    }

    /** "IllegalStateException if there are too few TERMS". */
    private static void nodeWithTooFewTerms() {
        Consumer<CekMachine> oneTerm = pushed(lambda(variable(1)));
        Consumer<CekMachine> threeTerms = pushed(unit(), lambda(variable(1)), integer(6));
        for (int kind : new int[] {LAMBDA, DELAY, FORCE}) {
            refuses("node " + kind + " without TERMS", NEW, m -> m.node(kind, 0), STATE);
            allows("node " + kind + " of the only TERM", oneTerm, m -> m.node(kind, 0), 1);
            allows("node " + kind + " of the last of three", threeTerms, m -> m.node(kind, 0), 3);
        }
        refuses("APPLY without TERMS", NEW, m -> m.node(APPLY, 0), STATE);
        refuses("APPLY of one TERM of two NODES", oneTerm, m -> m.node(APPLY, 0), STATE);
        allows("APPLY of two TERMS", TWO_TERMS, m -> m.node(APPLY, 0), 1);
        // "APPLY of the two last, the deeper one being the function".
        CekMachine machine = allows("APPLY of three TERMS", threeTerms, m -> m.node(APPLY, 0), 2);
        due("run", machine.run(ALL_STEPS, ALL_MEMORY), 0);
        due("number", machine.number(), 6);
        // A TERM that is gone is none.
        refuses("node behind drop", pushed(unit()).andThen(m -> m.drop()), m -> m.node(DELAY, 0), STATE);
        refuses("APPLY behind drop", TWO_TERMS.andThen(m -> m.drop()), m -> m.node(APPLY, 0), STATE);
        refuses("node behind clear", TWO_TERMS.andThen(m -> m.clear()), m -> m.node(LAMBDA, 0), STATE);
    }

    /** "IllegalStateException if there are .. 200 NODES". */
    private static void nodeWithTwoHundredNodes() {
        List<Consumer<CekMachine>> full = List.of(FULL_OF_TERMS, FULL_OF_ONE_TERM, FULL_WITH_BYTES);
        Consumer<CekMachine> allButOne = pushed(delays(196), integer(1), unit());
        long[][] kinds = {{VARIABLE, 1, 4}, {LAMBDA, 0, 3}, {APPLY, 0, 2}, {DELAY, 0, 3}, {FORCE, 0, 3}, {ERROR, 0, 4},
            {BUILTIN, 0, 4}, {INTEGER, 9, 4}, {TRUTH, 1, 4}, {UNIT, 0, 4}, {EMPTY, 0, 4}};
        for (long[] row : kinds) {
            int kind = (int) row[0];
            CekMachine machine = allows("NODE 200 of kind " + kind, allButOne, m -> m.node(kind, row[1]), row[2]);
            due("NODES", machine.look(1), 200);
            stateThrows("NODE 201", () -> machine.node(kind, row[1]));
            for (Consumer<CekMachine> state : full) {
                refuses("NODE 201 of kind " + kind, state, m -> m.node(kind, row[1]), STATE);
            }
        }
        // What goes makes room again.
        CekMachine machine = made(FULL_OF_TERMS);
        machine.drop();
        due("node behind drop", machine.node(DELAY, 0), 199);
        stateThrows("NODE 201", () -> machine.node(DELAY, 0));
    }

    /** "Of several exceptions the first one listed is thrown." */
    private static void nodeFirstException() {
        refuses("wrong arg and too few TERMS", NEW, m -> m.node(APPLY, 1), ARGUMENT);
        refuses("wrong arg and too few TERMS", NEW, m -> m.node(LAMBDA, -1), ARGUMENT);
        refuses("wrong kind and 200 NODES", FULL_OF_TERMS, m -> m.node(8, 0), ARGUMENT);
        refuses("wrong arg and 200 NODES", FULL_OF_TERMS, m -> m.node(VARIABLE, 0), ARGUMENT);
        refuses("wrong arg, one TERM and 200 NODES", FULL_OF_ONE_TERM, m -> m.node(APPLY, 2), ARGUMENT);
        refuses("wrong n and 200 NODES", FULL_OF_TERMS, m -> m.bytes(0, 9), ARGUMENT);
        refuses("wrong n and 200 NODES", FULL_OF_ONE_TERM, m -> m.bytes(0, -1), ARGUMENT);
        refuses("no TERM and wrong STEPS", NEW, m -> m.run(-1, 1), STATE);
        refuses("no TERM and wrong MEMORY", NEW, m -> m.run(1, 3001), STATE);
        refuses("not CLOSED and wrong STEPS", pushed(unit(), variable(1)), m -> m.run(20001, 1), STATE);
        refuses("not CLOSED and wrong MEMORY", pushed(unit(), variable(1)), m -> m.run(1, -1), STATE);
    }

    // ---- promise 4 ----

    /** "n lowest bytes of part, 0 .. 8, the highest first", "IllegalArgumentException if n is not so". */
    private static void bytesHowMany() {
        for (int n : new int[] {LEAST, -256, -8, -1, 9, 16, 256, GREATEST}) {
            refuses("bytes " + n, TWO_TERMS, m -> m.bytes(-1, n), ARGUMENT);
        }
        for (long part : new long[] {0x8182838485868788L, 0x0102030405060708L, -1, 0, MIN, MAX, 0xff00}) {
            for (int n = 0; n <= 8; n++) {
                int many = n;
                CekMachine machine = allows("bytes " + n, TWO_TERMS, m -> m.bytes(part, many), 3);
                due("NODES", machine.look(1), 3);
                due("LAMBDAS that they lack", machine.look(2), 0);
                machine.run(1, 0);
                due("how many", machine.number(), n);
                for (int i = 0; i < n; i++) {
                    due("byte " + i + " of " + n, machine.byteAt(i), part >> 8 * (n - 1 - i) & 255);
                }
                due("one behind them", machine.byteAt(n), NONE);
            }
        }
    }

    /** "IllegalStateException if there are 200 NODES". */
    private static void bytesWithTwoHundredNodes() {
        for (int n : new int[] {0, 8}) {
            CekMachine machine = allows("NODE 200", pushed(units(199)), m -> m.bytes(0x6162, n), 200);
            due("NODES", machine.look(1), 200);
            due("run", machine.run(1, 0), 0);
            due("how many", machine.number(), n);
            refuses("NODE 201", FULL_OF_TERMS, m -> m.bytes(0, n), STATE);
            refuses("NODE 201", FULL_OF_ONE_TERM, m -> m.bytes(0, n), STATE);
        }
    }

    // ---- promise 5 ----

    /** "gets n more, 1 .. 8, likewise: true; false if .. n is none". */
    private static void moreHowMany() {
        for (int n : new int[] {LEAST, -256, -1, 0, 9, 256, 257, GREATEST}) {
            refuses("more " + n, TWO_TERMS, m -> m.more(-1, n) ? 1 : 0, FALSE);
            refuses("more " + n + " of no BYTES", pushed(unit()), m -> m.more(-1, n) ? 1 : 0, FALSE);
        }
        long part = 0x8182838485868788L;
        for (int n = 1; n <= 8; n++) {
            int many = n;
            CekMachine machine = allows("more " + n, TWO_TERMS, m -> m.more(part, many) ? 1 : 0, 1);
            due("TERMS", machine.look(0), 2);
            due("NODES", machine.look(1), 2);
            machine.run(1, 0);
            due("how many", machine.number(), 2 + n);
            due("byte 0", machine.byteAt(0), 'a');
            due("byte 1", machine.byteAt(1), 'b');
            for (int i = 0; i < n; i++) {
                due("byte " + i + " of " + n + " more", machine.byteAt(2 + i), part >> 8 * (n - 1 - i) & 255);
            }
            due("one behind them", machine.byteAt(2 + n), NONE);
        }
    }

    /** "false if .. it would have more than 64". */
    private static void moreUpToSixtyFour() {
        for (int start = 56; start <= 64; start++) {
            Consumer<CekMachine> state = pushed(text(SIXTY_FOUR.substring(0, start)));
            for (int n = 1; n <= 8; n++) {
                int many = n;
                if (start + n > 64) {
                    refuses("more " + n + " to " + start, state, m -> m.more(-1, many) ? 1 : 0, FALSE);
                } else {
                    CekMachine machine = allows("more " + n + " to " + start, state, m -> m.more(-1, many) ? 1 : 0, 1);
                    machine.run(1, 0);
                    due("how many", machine.number(), start + n);
                    due("the last that was there", machine.byteAt(start - 1), SIXTY_FOUR.charAt(start - 1));
                    due("the last", machine.byteAt(start + n - 1), 255);
                    due("one behind it", machine.byteAt(start + n), NONE);
                }
            }
        }
        // A room that is full does not reach into the next.
        CekMachine machine = made(pushed(text(SIXTY_FOUR), text(SIXTY_FOUR)));
        machine.drop();
        machine.bytes('n', 1);
        machine.drop();
        machine.run(1, 0);
        due("how many", machine.number(), 64);
        due("the last", machine.byteAt(63), 'z');
    }

    /** "The last TERM, which is BYTES", "false if it is none". */
    private static void moreOfOtherTerms() {
        Part[] others = {variable(1), lambda(text("a")), apply(text("a"), text("b")), delay(text("a")),
            force(text("a")), error(), builtin(10), integer(0), truth(1), unit(), empty()};
        for (Part other : others) {
            refuses("more of a TERM that is no BYTES", pushed(text("ab"), other), MORE, FALSE);
        }
        refuses("more without a TERM", TWO_TERMS.andThen(m -> m.clear()), MORE, FALSE);
        refuses("more behind drop", pushed(unit(), text("ab")).andThen(m -> m.drop()), MORE, FALSE);
        allows("more of the BYTES below", pushed(text("ab"), unit()).andThen(m -> m.drop()), MORE, 1);
        CekMachine full = made(pushed(units(199)).andThen(pushed(text("ab"))));
        due("more with 200 NODES", full.more('c', 1), true);
        full.run(1, 0);
        due("how many", full.number(), 3);
        // A result is what it was when it came.
        CekMachine machine = made(ran(text("ab")));
        due("more", machine.more('c', 1), true);
        due("how many in the result", machine.number(), 2);
        due("one behind them", machine.byteAt(2), NONE);
    }

    // ---- promise 6 ----

    /** "false if there is none". */
    private static void dropOfNothing() {
        refuses("drop of a new object", NEW, DROP, FALSE);
        refuses("drop behind clear", FULL_OF_TERMS.andThen(m -> m.clear()), DROP, FALSE);
        refuses("drop behind drop", ran(unit()).andThen(m -> m.drop()), DROP, FALSE);
        refuses("drop behind drop of 200 NODES", FULL_OF_ONE_TERM.andThen(m -> m.drop()), DROP, FALSE);
    }

    /** "The last TERM goes: true". */
    private static void dropOfTheLast() {
        CekMachine one = allows("drop of the only TERM", FULL_OF_ONE_TERM, DROP, 1);
        due("TERMS", one.look(0), 0);
        due("NODES", one.look(1), 0);
        due("LAMBDAS that the last TERM lacks", one.look(2), NONE);
        CekMachine many = allows("drop of one of 200", FULL_OF_TERMS, DROP, 1);
        due("TERMS", many.look(0), 199);
        due("NODES", many.look(1), 199);
        Part[] lasts = {unit(), text(SIXTY_FOUR), lambda(variable(1)), apply(builtin(0, integer(1)), integer(2)),
            apply(delay(delay(unit())), apply(force(unit()), unit())), variable(200)};
        for (Part last : lasts) {
            Consumer<CekMachine> below = pushed(variable(7), apply(builtin(0, integer(40)), integer(2)));
            due("what is left behind drop", seen(below.andThen(pushed(last)), DROP), seen(below, null));
        }
    }

    // ---- promise 7 ----

    /** "STEPS, 0 .. 20000, and so much MEMORY, 0 .. 3000": "IllegalArgumentException if a budget is not so". */
    private static void runBudgets() {
        List<Consumer<CekMachine>> states = List.of(TWO_TERMS, ran(list(dataInteger(3), dataText("xy"))), ran(error()));
        for (Consumer<CekMachine> state : states) {
            for (int steps : new int[] {LEAST, -1, 20001, 65536, GREATEST}) {
                refuses("run " + steps, state, m -> m.run(steps, 3000), ARGUMENT);
                refuses("run " + steps, state, m -> m.run(steps, 0), ARGUMENT);
            }
            for (int memory : new int[] {LEAST, -1, 3001, 65536, GREATEST}) {
                refuses("run with " + memory, state, m -> m.run(20000, memory), ARGUMENT);
                refuses("run with " + memory, state, m -> m.run(0, memory), ARGUMENT);
            }
            refuses("run with both", state, m -> m.run(-1, -1), ARGUMENT);
        }
        Consumer<CekMachine> function = pushed(lambda(unit()));
        allows("the least of both", function, m -> m.run(0, 0), 4);
        allows("the least STEPS", function, m -> m.run(0, 3000), 4);
        allows("the least MEMORY", function, m -> m.run(20000, 0), 5);
        allows("the most of both", function, m -> m.run(20000, 3000), 0);
        allows("just enough of both", function, m -> m.run(1, 1), 0);
    }

    /** "IllegalStateException if there is no TERM, or it is not CLOSED". */
    private static void runWithoutClosedTerm() {
        refuses("run behind drop", ran(integer(6)).andThen(m -> m.drop()), m -> m.run(9, 9), STATE);
        refuses("run behind clear", ran(error()).andThen(m -> m.clear()), m -> m.run(9, 9), STATE);
        for (Part open : new Part[] {variable(1), variable(200), lambda(variable(2)), delay(variable(1)),
            force(variable(1)), apply(variable(1), unit()), apply(unit(), variable(1)),
            apply(lambda(variable(1)), variable(1)), lambda(lambda(lambda(variable(4))))}) {
            refuses("run of what is not CLOSED", ran(integer(6)).andThen(pushed(open)), m -> m.run(9, 9), STATE);
        }
        allows("run above what is not CLOSED", pushed(variable(3), unit()), m -> m.run(1, 0), 0);
        allows("run of a LAMBDA that binds", pushed(lambda(variable(1))), m -> m.run(1, 1), 0);
        allows("run of a VARIABLE never EVALUATED", pushed(lambda(lambda(delay(variable(2))))), m -> m.run(1, 1), 0);
    }

    /** "0, and there is a result; else why it fails, 1 .. 6, and there is none". */
    private static void runAnswers() {
        Part deeper = fun(self -> force(apply(self, self)));
        Part endless = fun(self -> apply(self, self));
        Part[] terms = {integer(8), error(), force(unit()), builtin(3, integer(1), integer(0)),
            builtin(17, empty(), empty()), apply(endless, endless), apply(deeper, deeper)};
        for (int why = 0; why <= 6; why++) {
            int steps = why == 4 ? 7 : ALL_STEPS;
            Consumer<CekMachine> before = ran(list(dataText("q"))).andThen(m -> m.clear()).andThen(pushed(terms[why]));
            CekMachine machine = allows("run", before, m -> m.run(steps, ALL_MEMORY), why);
            due("the latest run's answer", machine.look(3), why);
            due("kind", machine.kind(), why == 0 ? 0 : NONE);
            due("number", told(() -> machine.number()), why == 0 ? "8" : STATE);
            due("byteAt", machine.byteAt(0), NONE);
            due("data", machine.data(0, 0), NONE);
            due("dataByte", machine.dataByte(1, 0), NONE);
            stateThrows("dataValue", () -> machine.dataValue(0));
            machine.clear();
            ran(text("r")).accept(machine);
            due("the latest run's answer", machine.look(3), 0);
            due("byte of the next result", machine.byteAt(0), 'r');
        }
    }

    /** "The last TERM (which stays)". */
    private static void runLeavesTheTerm() {
        Part again = builtin(10, text("ab"), builtin(13, integer(1), integer(2), text("xcdx")));
        CekMachine machine = made(pushed(unit(), again));
        int nodes = machine.look(1);
        for (int i = 0; i < 20; i++) {
            due("run", machine.run(ALL_STEPS, i % 3 == 2 ? 3 : ALL_MEMORY), i % 3 == 2 ? 5 : 0);
            due("byte", machine.byteAt(3), i % 3 == 2 ? NONE : 'd');
            due("TERMS", machine.look(0), 2);
            due("NODES", machine.look(1), nodes);
            due("LAMBDAS that it lacks", machine.look(2), 0);
        }
        machine.drop();
        due("run of the TERM below", machine.run(1, 0), 0);
        due("kind", machine.kind(), 3);
    }

    // ---- promises 8 and 9 ----

    /** The result's kind, 0 .. 7, and "The result as a number". */
    private static void kindAndNumberOfEach() {
        Map<Part, long[]> results = new LinkedHashMap<>();
        results.put(integer(MIN), new long[] {0, MIN});
        results.put(integer(MAX), new long[] {0, MAX});
        results.put(integer(-1), new long[] {0, -1});
        results.put(text(""), new long[] {1, 0});
        results.put(text(SIXTY_FOUR), new long[] {1, 64});
        results.put(truth(0), new long[] {2, 0});
        results.put(truth(1), new long[] {2, 1});
        results.put(builtin(7, integer(3), integer(3)), new long[] {2, 1});
        results.put(builtin(7, integer(3), integer(4)), new long[] {2, 0});
        results.put(unit(), new long[] {3, 0});
        results.put(empty(), new long[] {4, 1});
        results.put(dataInteger(99), new long[] {4, 1});
        results.put(dataText(SIXTY_FOUR), new long[] {4, 1});
        results.put(map(empty(), empty()), new long[] {4, 3});
        results.put(lambda(integer(4)), new long[] {5, 0});
        results.put(delay(integer(4)), new long[] {6, 0});
        results.put(builtin(0), new long[] {7, 0});
        results.put(builtin(31), new long[] {7, 31});
        results.put(builtin(13, integer(4), integer(5)), new long[] {7, 13});
        for (Map.Entry<Part, long[]> entry : results.entrySet()) {
            fresh();
            comesTo(entry.getKey(), (int) entry.getValue()[0], entry.getValue()[1]);
        }
        refuses("number behind a run that failed", ran(error()), m -> m.number(), STATE);
        refuses("kind behind a run that failed", ran(error()), m -> m.kind(), NOTHING);
    }

    // ---- promise 10 ----

    /** "Byte k of the result, BYTES; NONE if there is none such." */
    private static void byteAtEnds() {
        for (int n : new int[] {0, 1, 8, 63, 64}) {
            Consumer<CekMachine> state = ran(text(SIXTY_FOUR.substring(0, n)));
            for (int k : new int[] {LEAST, -64, -1, n, n + 1, 64, 65, 256, GREATEST}) {
                refuses("byteAt " + k + " of " + n, state, m -> m.byteAt(k), NOTHING);
            }
            for (int k = 0; k < n; k++) {
                int at = k;
                allows("byteAt " + k + " of " + n, state, m -> m.byteAt(at), SIXTY_FOUR.charAt(k));
            }
        }
        // A part of BYTES has none of what was around it.
        CekMachine machine = made(ran(builtin(13, integer(1), integer(2), text("abcd"))));
        due("before the first", machine.byteAt(-1), NONE);
        due("the first", machine.byteAt(0), 'b');
        due("the last", machine.byteAt(1), 'c');
        due("behind the last", machine.byteAt(2), NONE);
    }

    // ---- promises 11 to 13 ----

    /** "NONE if there is none such, for any other w". */
    private static void dataEnds() {
        Consumer<CekMachine> state = ran(constructor(9, dataInteger(1), dataText("ab"), empty()));
        for (int w = 0; w <= 3; w++) {
            int which = w;
            for (int k : new int[] {LEAST, -4, -1, 4, 5, 200, 256, GREATEST}) {
                refuses("data " + k + " " + w, state, m -> m.data(k, which), NOTHING);
            }
        }
        for (int k = 0; k < 4; k++) {
            int at = k;
            for (int w : new int[] {LEAST, -1, 4, 5, 256, GREATEST}) {
                refuses("data " + k + " " + w, state, m -> m.data(at, w), NOTHING);
            }
        }
        allows("form of the first", state, m -> m.data(0, 0), 0);
        allows("form of the last", state, m -> m.data(3, 0), 2);
        allows("DEPTH of the last", state, m -> m.data(3, 3), 1);
        // A part of DATA has none of what was around it.
        CekMachine machine = made(ran(builtin(26, builtin(27, list(dataInteger(1), list(empty()), dataInteger(2))))));
        due("NODES", machine.number(), 2);
        due("before the first", machine.data(-1, 0), NONE);
        due("behind the last", machine.data(2, 0), NONE);
        due("NONE as a value", told(() -> machine.dataValue(2)), STATE);
    }

    /** "or what it has none of": how many, or a number, by the form of the NODE. */
    private static void dataOfEachForm() {
        Part[] parts = {constructor(0), constructor(127, empty(), empty()), map(), map(empty(), empty()), empty(),
            list(empty(), empty(), empty()), dataInteger(0), dataInteger(MAX), dataText(""), dataText(SIXTY_FOUR)};
        int[][] due = {{0, 0, 0, 1}, {0, 2, 127, 2}, {1, 0, NONE, 1}, {1, 1, NONE, 2}, {2, 0, NONE, 1},
            {2, 3, NONE, 2}, {3, NONE, NONE, 1}, {3, NONE, NONE, 1}, {4, 0, NONE, 1}, {4, 64, NONE, 1}};
        for (int i = 0; i < parts.length; i++) {
            for (int w = 0; w <= 3; w++) {
                int which = w;
                allows("data 0 " + w + " of " + i, ran(parts[i]), m -> m.data(0, which), due[i][w]);
                allows("data 1 " + w + " of " + i, ran(list(parts[i])), m -> m.data(1, which), due[i][w]);
            }
        }
        refuses("number of a LIST", ran(empty()), m -> m.data(0, 2), NOTHING);
        refuses("how many in an INTEGER", ran(dataInteger(5)), m -> m.data(0, 1), NOTHING);
    }

    /** "numbered from the outermost, 0, on, then what is within it, .. of a pair the key first, ..". */
    private static void dataInTurn() {
        fresh();
        Part pairs = map(list(dataInteger(1)), constructor(2, dataInteger(3)), dataText("k"), map());
        comesToData(list(pairs, dataInteger(4)),
                "l2/4 m2/3 l1/2 i1/1 c1#2/2 i3/1 b1:107/1 m0/1 i4/1");
    }

    /** "IllegalStateException if there is none such." */
    private static void dataValueEnds() {
        Consumer<CekMachine> state =
                ran(list(dataInteger(MIN), dataText("a"), constructor(5), map(), dataInteger(MAX)));
        for (int k : new int[] {LEAST, -1, 0, 2, 3, 4, 6, 7, 200, GREATEST}) {
            refuses("dataValue " + k, state, m -> m.dataValue(k), STATE);
        }
        allows("the least value", state, m -> m.dataValue(1), MIN);
        allows("the greatest value", state, m -> m.dataValue(5), MAX);
        allows("the only NODE", ran(dataInteger(-1)), m -> m.dataValue(0), -1);
        refuses("behind the only NODE", ran(dataInteger(-1)), m -> m.dataValue(1), STATE);
        refuses("before the only NODE", ran(dataInteger(-1)), m -> m.dataValue(-1), STATE);
    }

    /** "Byte j of NODE k of the result, BYTES of DATA; NONE if there is none such." */
    private static void dataByteEnds() {
        for (int n : new int[] {0, 1, 63, 64}) {
            Part bytes = dataText(SIXTY_FOUR.substring(0, n));
            Consumer<CekMachine> state = ran(list(dataInteger(70), bytes, dataText("\u00fe"), constructor(6), map()));
            for (int j : new int[] {LEAST, -1, n, n + 1, 64, 256, GREATEST}) {
                refuses("dataByte 2 " + j + " of " + n, state, m -> m.dataByte(2, j), NOTHING);
            }
            for (int j : new int[] {0, 31, 34, n - 1}) {
                if (j >= 0 && j < n) {
                    allows("dataByte 2 " + j + " of " + n, state, m -> m.dataByte(2, j), SIXTY_FOUR.charAt(j));
                }
            }
            allows("dataByte 3 0", state, m -> m.dataByte(3, 0), 254);
            for (int k : new int[] {LEAST, -1, 0, 1, 4, 5, 6, 200, GREATEST}) {
                refuses("dataByte " + k + " 0", state, m -> m.dataByte(k, 0), NOTHING);
            }
        }
    }

    /** "of the result, BYTES", "of the result, DATA", ..: what is of another kind has none such. */
    private static void readingOtherKinds() {
        Part[] kinds = {integer(0), text("a"), truth(1), unit(), list(dataInteger(0), dataText("a")), lambda(unit()),
            delay(unit()), builtin(0)};
        for (int kind = 0; kind < kinds.length; kind++) {
            Consumer<CekMachine> state = ran(kinds[kind]);
            if (kind != 1) {
                refuses("byteAt with kind " + kind, state, m -> m.byteAt(0), NOTHING);
            }
            if (kind != 4) {
                for (int w = 0; w <= 3; w++) {
                    int which = w;
                    refuses("data with kind " + kind, state, m -> m.data(0, which), NOTHING);
                }
                refuses("dataValue with kind " + kind, state, m -> m.dataValue(0), STATE);
                refuses("dataByte with kind " + kind, state, m -> m.dataByte(0, 0), NOTHING);
            }
        }
    }

    // ---- promise 14 ----

    /** "NONE for any other which", and what each of them tells at its ends. */
    private static void lookEnds() {
        for (Consumer<CekMachine> state : List.of(NEW, TWO_TERMS, ran(unit()))) {
            for (int which : new int[] {LEAST, -2, -1, 7, 8, 256, GREATEST}) {
                refuses("look " + which, state, m -> m.look(which), NOTHING);
            }
        }
        allows("TERMS of 200", FULL_OF_TERMS, m -> m.look(0), 200);
        allows("NODES of 200", FULL_OF_TERMS, m -> m.look(1), 200);
        allows("TERMS of one", FULL_OF_ONE_TERM, m -> m.look(0), 1);
        allows("NODES of one", FULL_OF_ONE_TERM, m -> m.look(1), 200);
        allows("LAMBDAS, none lacking", pushed(unit()), m -> m.look(2), 0);
        allows("LAMBDAS, none lacking", pushed(lambda(lambda(unit()))), m -> m.look(2), 0);
        allows("LAMBDAS, more than needed", pushed(lambda(lambda(variable(1)))), m -> m.look(2), 0);
        allows("LAMBDAS, the most lacking", pushed(variable(200)), m -> m.look(2), 200);
        allows("LAMBDAS, of the function", pushed(apply(variable(9), variable(4))), m -> m.look(2), 9);
        allows("LAMBDAS, of the argument", pushed(apply(variable(4), variable(9))), m -> m.look(2), 9);
        allows("LAMBDAS, of the function alone", pushed(apply(variable(1), lambda(variable(1)))), m -> m.look(2), 1);
        allows("LAMBDAS, of the last TERM", pushed(variable(9), unit()), m -> m.look(2), 0);
        allows("LAMBDAS, of the last TERM", pushed(unit(), variable(9)), m -> m.look(2), 9);
        refuses("LAMBDAS, without a TERM", pushed(variable(9)).andThen(m -> m.drop()), m -> m.look(2), NOTHING);
        fresh();
        due("run", runOf(forces(199, unit())), 2);
        due("the latest run's answer", x.look(3), 2);
        costs(200, 0, 199);
        due("run", x.run(0, 0), 4);
        due("the latest run's answer", x.look(3), 4);
        costs(0, 0, 0);
    }

    /** "3 to 5: NONE without a run", "6: .. (NONE without one)": a refused run is none. */
    private static void lookWithoutARun() {
        Consumer<CekMachine> refused = TWO_TERMS.andThen(m -> {
            argumentThrows("run", () -> m.run(-1, 0));
            m.node(VARIABLE, 1);
            stateThrows("run", () -> m.run(1, 1));
        });
        for (int which = 3; which <= 6; which++) {
            int w = which;
            refuses("look " + which, TWO_TERMS, m -> m.look(w), NOTHING);
            refuses("look " + which, refused, m -> m.look(w), NOTHING);
        }
        // A run stays the latest one whatever comes behind it but another run.
        CekMachine machine = made(ran(builtin(0, integer(1), integer(2))).andThen(refused));
        machine.clear();
        int[] figures = {0, 8, 3, 2};
        for (int which = 3; which <= 6; which++) {
            due("look " + which, machine.look(which), figures[which - 3]);
        }
        due("number", machine.number(), 3);
    }

    // ---- what holds of all calls ----

    /** "What throws, or answers false or NONE, changes nothing." */
    private static void refusedCallsInEachState() {
        Part result = constructor(3, dataText("abc"), map(dataInteger(-5), empty()));
        List<Consumer<CekMachine>> states = List.of(
                NEW,
                TWO_TERMS,
                FULL_OF_TERMS,
                FULL_WITH_BYTES.andThen(m -> m.run(1, 0)),
                ran(result).andThen(pushed(variable(3))),
                ran(text(SIXTY_FOUR)),
                ran(apply(error(), unit())).andThen(m -> m.clear()));
        int refused = 0;
        for (Consumer<CekMachine> state : states) {
            String before = seen(state, null);
            for (ToLongFunction<CekMachine> call : allSortsOfCalls()) {
                CekMachine machine = made(state);
                String answer = told(() -> call.applyAsLong(machine));
                if (answer.equals(ARGUMENT) || answer.equals(STATE) || answer.equals("-1")) {
                    refused++;
                    due("what can be seen", seen(state, call), before);
                }
            }
        }
        due("whether many were refused", refused > 300, true);
    }

    /** Calls with arguments at all ends; false is told as NONE is. */
    private static List<ToLongFunction<CekMachine>> allSortsOfCalls() {
        List<ToLongFunction<CekMachine>> calls = new ArrayList<>();
        for (int kind = -1; kind <= 12; kind++) {
            int of = kind;
            for (long arg : new long[] {-1, 0, 1, 201, MAX}) {
                calls.add(m -> m.node(of, arg));
            }
        }
        for (int n : new int[] {-1, 0, 1, 8, 9}) {
            calls.add(m -> m.bytes(0x31, n));
            calls.add(m -> m.more(0x31, n) ? 1 : NONE);
        }
        calls.add(m -> m.drop() ? 1 : NONE);
        calls.add(m -> m.kind());
        calls.add(m -> m.number());
        for (int[] budgets : new int[][] {{-1, 0}, {0, -1}, {20001, 5}, {5, 3001}, {9, 9}}) {
            calls.add(m -> m.run(budgets[0], budgets[1]));
        }
        for (int k : new int[] {-1, 0, 1, 3, 64, 200}) {
            calls.add(m -> m.byteAt(k));
            calls.add(m -> m.dataValue(k));
            calls.add(m -> m.look(k));
            for (int w = -1; w <= 4; w++) {
                int which = w;
                calls.add(m -> m.data(k, which));
                calls.add(m -> m.dataByte(k, which));
            }
        }
        return calls;
    }

    /** "An object is used for at most 512 calls": the last of them is answered as the first. */
    private static void fiveHundredAndTwelveCalls() {
        CekMachine machine = new CekMachine();
        int calls = 0;
        for (int i = 0; i < 99; i++) {
            machine.node(INTEGER, i);
            machine.node(DELAY, 0);
            calls += 2;
        }
        due("bytes", machine.bytes('b', 1), 100);
        due("more", machine.more('c', 1), true);
        calls += 2;
        while (calls < 510) {
            due("run", machine.run(calls % 2, 0), calls % 2 == 0 ? 4 : 0);
            calls++;
        }
        due("run", machine.run(ALL_STEPS, ALL_MEMORY), 0);
        due("byteAt, the 512th call", machine.byteAt(1), 'c');
    }
}
