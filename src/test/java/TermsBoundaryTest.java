import java.util.ArrayList;
import java.util.Arrays;
import java.util.Collections;
import java.util.List;
import java.util.function.Function;
import java.util.function.UnaryOperator;

/**
 * The boundary cases of the document's part "Terms", each by the words that name it: the last that
 * is still allowed, and the first that is not.
 */
public final class TermsBoundaryTest extends TestKit {
    private static final String FULL = "0123456789abcdef\u0000\u0001\u007f\u0080\u0081\u00fe\u00ff ABCDEFGH"
            + "fedcba9876543210HGFEDCBAzyxwvutz";

    /** How many VALUES each BUILTIN takes. */
    private static final String TAKES = "22222222222123223211121111112111";

    public static void main(String[] args) {
        termOfTwoHundredNodes();
        variableBoundByTheLastLambda();
        variableFarOut();
        dataOfTwoHundredNodes();
        dataOfDepthTwelve();
        depthOfWhatIsEmpty();
        builtinsOfTheLargestData();
        builtinsWithFewerValues();
        sizeOfOthers();
        sizeOfBytes();
        sizeOfData();
        stepFirstOfAll();
        memoryOfNodes();
        whatIsForced();
        whatIsApplied();
        callOfFunction();
        callOfBuiltin();
        doneStepsFirst();
        doneMemoryLast();
        costOfEachBuiltin();
        fourHundredWaiting();
        bodiesAreNotWaiting();
        allSteps();
        allMemory();
        rowsOfDataAllButFull();
        rowsOfBytesAllButFull();
        sums();
        products();
        quotients();
        comparisons();
        joinedBytes();
        bytesByPlace();
        slices();
        comparedBytes();
        choices();
        equalData();
        constructors();
        dataAndBack();
        firstAndOthers();
        mapsOfLists();
        finish();
    }

    // ---- how the tests speak ----

    /** It takes just so much, and a STEP less or one of MEMORY less is too little. */
    private static void exactly(Part part, int steps, int memory, int waiting) {
        fresh();
        due("run", runOf(part), 0);
        costs(steps, memory, waiting);
        due("run with just so much", x.run(steps, memory), 0);
        costs(steps, memory, waiting);
        due("run with a STEP less", x.run(steps - 1, memory), 4);
        due("whether STEPS are fewer", x.look(4) < steps, true);
        due("kind", x.kind(), NONE);
        if (memory > 0) {
            due("run with MEMORY one less", x.run(steps, memory - 1), 5);
            due("whether MEMORY is less", x.look(5) < memory, true);
            due("kind", x.kind(), NONE);
        }
    }

    private static void failsWith(Part part, int steps, int memory, int why) {
        fresh();
        due("run", runOf(part, steps, memory), why);
        due("kind", x.kind(), NONE);
    }

    private static Part repeatedly(int n, Part start, UnaryOperator<Part> step) {
        Part part = start;
        for (int i = 0; i < n; i++) {
            part = step.apply(part);
        }
        return part;
    }

    private static Part lambdas(int n, Part body) {
        return repeatedly(n, body, part -> lambda(part));
    }

    /** Costs 2 STEPS and 1 of MEMORY more than the body. */
    private static Part forceDelay(Part body) {
        return force(delay(body));
    }

    /** Costs 2 STEPS and 2 of MEMORY more than the two together. */
    private static Part then(Part first, Part second) {
        return apply(lambda(second), first);
    }

    private static Part[] eachKind() {
        return new Part[] {integer(3), text("abc"), truth(1), unit(), empty(), lambda(integer(4)),
            delay(integer(5)), builtin(0)};
    }

    // ---- TERMS ----

    /** "It has at most 200 NODES." */
    private static void termOfTwoHundredNodes() {
        Part term = repeatedly(98, then(unit(), integer(5)), part -> forceDelay(part));
        exactly(term, 200, 100, 1);
        due("NODES", x.look(1), 200);
        due("TERMS", x.look(0), 1);
        stateThrows("a NODE more", () -> x.node(DELAY, 0));
        due("NODES", x.look(1), 200);
        due("run", x.run(200, 100), 0);
        due("number", x.number(), 5);
        fresh();
        fails(forces(199, unit()), 2);
        costs(200, 0, 199);
    }

    /** "A VARIABLE i is bound by the i-th LAMBDA around it", "CLOSED if all its VARIABLES are bound". */
    private static void variableBoundByTheLastLambda() {
        for (int i : new int[] {1, 2, 3, 100, 199}) {
            fresh();
            lambdas(i - 1, variable(i)).push(x, 0);
            due("LAMBDAS that VARIABLE " + i + " lacks", x.look(2), 1);
            stateThrows("run", () -> x.run(1, 1));
            x.node(LAMBDA, 0);
            due("LAMBDAS that VARIABLE " + i + " lacks", x.look(2), 0);
            due("run", x.run(1, 1), 0);
            due("kind", x.kind(), 5);
        }
        fresh();
        lambdas(199, variable(200)).push(x, 0);
        due("LAMBDAS that VARIABLE 200 lacks", x.look(2), 1);
        stateThrows("run", () -> x.run(1, 1));
        stateThrows("a LAMBDA more", () -> x.node(LAMBDA, 0));
        for (Part open : new Part[] {apply(variable(1), apply(variable(1), variable(2))),
            apply(variable(2), variable(1)), delay(variable(2)), force(variable(2))}) {
            fresh();
            lambda(open).push(x, 0);
            stateThrows("run of what is not CLOSED by one VARIABLE", () -> x.run(1, 1));
            x.node(LAMBDA, 0);
            due("run", x.run(1, 1), 0);
        }
    }

    /** "the innermost being the first": as many LAMBDAS out as can be CALLED within the budgets. */
    private static void variableFarOut() {
        int out = 140;
        for (int i : new int[] {1, 2, 70, 139, 140}) {
            fresh();
            comesTo(calledWithOneUpTo(out, lambdas(out, variable(i))), 0, out + 1 - i);
        }
    }

    /** The function CALLED with 1, what that comes to with 2, and so on, up to a last number. */
    private static Part calledWithOneUpTo(int last, Part function) {
        Part loop = fun(self -> fun(f -> fun(n -> force(builtin(16,
                builtin(7, n, integer(last + 1)),
                delay(f),
                delay(apply(self, self, apply(f, n), builtin(0, n, integer(1)))))))));
        return let(loop, self -> apply(self, self, function, integer(1)));
    }

    // ---- DATA ----

    private static Part nest(int depth) {
        return repeatedly(depth - 1, empty(), inner -> ahead(inner, empty()));
    }

    /** LISTS of 1, 2, 4 .. 128 NODES, of DEPTH 1, 2, 3 .. 8, for a body. */
    private static Part withPowers(Function<List<Part>, Part> body) {
        return withPowers(Collections.singletonList(empty()), body);
    }

    private static Part withPowers(List<Part> powers, Function<List<Part>, Part> body) {
        if (powers.size() == 8) {
            return body.apply(powers);
        }
        Part last = powers.get(powers.size() - 1);
        return let(ahead(last, last), next -> {
            List<Part> more = new ArrayList<>(powers);
            more.add(next);
            return withPowers(more, body);
        });
    }

    /** A LIST of so many NODES above 128, put together of the LISTS of 1 to 64. */
    private static Part listOf(int nodes, List<Part> powers) {
        Part list = powers.get(7);
        for (int i = 0; i < 7; i++) {
            if ((nodes - 128 >> i & 1) == 1) {
                list = ahead(powers.get(i), list);
            }
        }
        return list;
    }

    /** A LIST of 14 DATA with 200 NODES and of DEPTH 12: neither can be more. */
    private static Part largest(List<Part> powers) {
        Part list = listOf(128 + 45, powers);
        Part sixteenMore = ahead(powers.get(3), ahead(powers.get(3), list));
        return ahead(nest(11), sixteenMore);
    }

    /** "its NODES: at most 200". */
    private static void dataOfTwoHundredNodes() {
        for (int nodes : new int[] {198, 199, 200}) {
            fresh();
            comesTo(withPowers(p -> listOf(nodes, p)), 4, nodes);
            due("the last NODE", x.data(nodes - 1, 0), 2);
            due("one behind it", x.data(nodes, 0), NONE);
        }
        fresh();
        fails(withPowers(p -> listOf(201, p)), 3);
        fresh();
        comesTo(withPowers(p -> ahead(empty(), listOf(199, p))), 4, 200);
        fails(withPowers(p -> ahead(empty(), listOf(200, p))), 3);
        fresh();
        comesTo(withPowers(p -> ahead(listOf(199, p), empty())), 4, 200);
        fails(withPowers(p -> ahead(listOf(200, p), empty())), 3);
        fresh();
        comesTo(withPowers(p -> ahead(dataInteger(7), listOf(199, p))), 4, 200);
        due("the first", x.dataValue(1), 7);
        fails(withPowers(p -> ahead(dataText("a"), listOf(200, p))), 3);
        fresh();
        fails(withPowers(p -> ahead(p.get(7), p.get(7))), 3);
    }

    /** "its DEPTH is 1, or 1 more than the greatest of what is within it at once: at most 12". */
    private static void dataOfDepthTwelve() {
        fresh();
        comesTo(nest(12), 4, 12);
        for (int k = 0; k < 12; k++) {
            due("DEPTH of NODE " + k, x.data(k, 3), 12 - k);
        }
        fails(nest(13), 3);
        fresh();
        comesTo(ahead(nest(11), nest(12)), 4, 23);
        due("DEPTH", x.data(0, 3), 12);
        fails(ahead(nest(12), nest(12)), 3);
        fresh();
        comesTo(ahead(empty(), nest(12)), 4, 13);
        due("DEPTH", x.data(0, 3), 12);
        fails(ahead(nest(12), list(empty(), empty())), 3);
        List<UnaryOperator<Part>> within = Arrays.asList(
                inner -> constructor(1, inner),
                inner -> constructor(1, empty(), inner),
                inner -> map(inner, empty()),
                inner -> map(empty(), inner));
        for (UnaryOperator<Part> step : within) {
            fresh();
            due("run", runOf(repeatedly(11, dataInteger(5), step)), 0);
            due("DEPTH", x.data(0, 3), 12);
            fresh();
            fails(repeatedly(12, dataInteger(5), step), 3);
        }
    }

    /** "its DEPTH is 1" where there is nothing within. */
    private static void depthOfWhatIsEmpty() {
        fresh();
        comesToData(empty(), "l0/1");
        comesToData(constructor(0), "c0#0/1");
        comesToData(map(), "m0/1");
        comesToData(dataInteger(0), "i0/1");
        comesToData(dataText(""), "b0/1");
        comesToData(list(empty()), "l1/2 l0/1");
        comesToData(builtin(27, list(nest(4))), "l0/1");
        comesToData(builtin(27, list(nest(4), dataInteger(6))), "l1/2 i6/1");
        fresh();
        comesToData(builtin(20, constructor(3)), "l0/1");
        comesToData(builtin(31, map()), "l0/1");
        comesToData(builtin(26, list(nest(2), nest(3))), "l1/2 l0/1");
    }

    /** No BUILTIN but 28 makes DATA larger or deeper: "none if too large or deep" is not for these. */
    private static void builtinsOfTheLargestData() {
        largestIs("largest", l -> l, 2, 14, 200, 12);
        largestIs("21", l -> builtin(21, integer(127), l), 0, 14, 200, 12);
        due("number of the CONSTRUCTOR", x.data(0, 2), 127);
        largestIs("20", l -> builtin(20, builtin(21, integer(0), l)), 2, 14, 200, 12);
        largestIs("26", l -> builtin(26, l), 2, 1, 11, 11);
        largestIs("27", l -> builtin(27, l), 2, 13, 189, 8);
        largestIs("30", l -> builtin(30, l), 1, 7, 200, 12);
        largestIs("31", l -> builtin(31, builtin(30, l)), 2, 14, 200, 12);
        largestIs("16", l -> builtin(16, truth(0), unit(), l), 2, 14, 200, 12);
        fresh();
        comesTo(withPowers(p -> let(largest(p), l -> builtin(17, l, l))), 2, 1);
        comesTo(withPowers(p -> builtin(18, largest(p))), 0, 2);
        fresh();
        comesTo(withPowers(p -> builtin(19, builtin(21, integer(127), largest(p)))), 0, 127);
        comesTo(withPowers(p -> builtin(29, largest(p))), 2, 0);
    }

    private static void largestIs(String what, UnaryOperator<Part> of, int form, int count, int nodes, int depth) {
        fresh();
        comesTo(withPowers(p -> of.apply(largest(p))), 4, nodes);
        due(what + ": form", x.data(0, 0), form);
        due(what + ": how many", x.data(0, 1), count);
        due(what + ": DEPTH", x.data(0, 3), depth);
        due(what + ": DEPTH of the last NODE", x.data(nodes - 1, 3), 1);
        due(what + ": one behind it", x.data(nodes, 3), NONE);
    }

    // ---- VALUES and their SIZE ----

    /** "BUILTIN, with the VALUES it has been applied to, fewer than it takes". */
    private static void builtinsWithFewerValues() {
        for (int b = 0; b < 32; b++) {
            int takes = TAKES.charAt(b) - '0';
            fresh();
            for (int n = 0; n < takes; n++) {
                comesTo(toUnits(b, n), 7, b);
                costs(1 + 2 * n, 1 + n, n);
            }
            fails(toUnits(b, takes), 2);
            costs(1 + 2 * takes + 1 + takes, takes, takes);
        }
    }

    private static Part toUnits(int b, int n) {
        Part[] units = new Part[n];
        Arrays.fill(units, unit());
        return builtin(b, units);
    }

    /** "The SIZE of a VALUE is 1", whatever it holds, but for BYTES and DATA. */
    private static void sizeOfOthers() {
        Part[] ones = {integer(MAX), truth(0), unit(), lambda(text(FULL)), delay(text(FULL)), builtin(13),
            let(text(FULL), bytes -> lambda(bytes)), let(text(FULL), bytes -> delay(bytes)),
            builtin(16, text(FULL), text(FULL))};
        for (Part one : ones) {
            sizeWhenChosenIs(one, 1);
        }
    }

    /** "of BYTES 1 and an eighth of how many they are, rounded down". */
    private static void sizeOfBytes() {
        for (int n = 0; n <= 64; n++) {
            int size = 1 + n / 8;
            Part bytes = text(FULL.substring(0, n));
            exactly(builtin(11, bytes), 3 + 1 + size, 1 + 1, 1);
            exactly(builtin(13, integer(0), integer(64), bytes), 7 + 1 + 2 + size, 3 + size, 3);
        }
    }

    /** "of DATA how many NODES it has and an eighth of all its bytes, rounded down". */
    private static void sizeOfData() {
        for (int n = 0; n <= 64; n += n < 17 ? 1 : 47) {
            Part bytes = dataText(FULL.substring(0, n));
            sizeIs(bytes, 1 + n / 8);
            sizeIs(list(bytes), 2 + n / 8);
            for (int m : new int[] {0, 1, 7, 8, 64}) {
                Part others = dataText(FULL.substring(0, m));
                sizeIs(list(bytes, others), 3 + (n + m) / 8);
                sizeIs(constructor(100, dataInteger(MAX), list(bytes), others), 5 + (n + m) / 8);
                sizeIs(map(bytes, others), 3 + (n + m) / 8);
                sizeIs(builtin(27, list(dataText(FULL), bytes, others)), 3 + (n + m) / 8);
                sizeIs(builtin(26, list(list(bytes, others), dataText(FULL))), 3 + (n + m) / 8);
            }
        }
        sizeIs(empty(), 1);
        sizeIs(constructor(127), 1);
        sizeIs(map(), 1);
        sizeIs(dataInteger(MIN), 1);
    }

    private static void sizeIs(Part data, int size) {
        sizeWhenChosenIs(data, size);
        fresh();
        due("run", runOf(let(data, v -> unit())), 0);
        int steps = x.look(4) - 1;
        int memory = x.look(5);
        due("run", runOf(let(data, v -> builtin(18, v))), 0);
        due("STEPS", x.look(4) - steps, 3 + 1 + size);
        due("MEMORY", x.look(5) - memory, 1 + 1);
    }

    /** What a VALUE costs where a BUILTIN takes it, and where it is the result. */
    private static void sizeWhenChosenIs(Part part, int size) {
        fresh();
        due("run", runOf(let(part, v -> unit())), 0);
        int steps = x.look(4) - 1;
        int memory = x.look(5);
        due("run", runOf(let(part, v -> builtin(16, truth(1), v, unit()))), 0);
        due("STEPS", x.look(4) - steps, 7 + 1 + 1 + size + 1);
        due("MEMORY", x.look(5) - memory, 3 + size);
        due("run", runOf(let(part, v -> builtin(16, truth(1), unit(), v))), 0);
        due("STEPS", x.look(4) - steps, 7 + 1 + 1 + size + 1);
        due("MEMORY", x.look(5) - memory, 3 + 1);
    }

    // ---- what NODES and CALLS cost ----

    /** "To EVALUATE a NODE costs a STEP, first of all." */
    private static void stepFirstOfAll() {
        Part[] nodes = {lambda(variable(1)), delay(error()), builtin(31), integer(0), text(""), truth(0), unit(),
            empty(), error(), apply(error(), error()), force(error())};
        int[] withOne = {0, 0, 0, 0, 0, 0, 0, 0, 1, 4, 4};
        for (int i = 0; i < nodes.length; i++) {
            failsWith(nodes[i], 0, ALL_MEMORY, 4);
            costs(0, 0, 0);
            failsWith(nodes[i], 0, 0, 4);
            costs(0, 0, 0);
            due("run with a STEP", x.run(1, 1), withOne[i]);
            costs(1, i < 3 ? 1 : 0, withOne[i] == 4 ? 1 : 0);
        }
        Part variable = apply(lambda(variable(1)), unit());
        failsWith(variable, 3, 2, 4);
        costs(3, 2, 1);
        exactly(variable, 4, 2, 1);
    }

    /** "LAMBDA, DELAY, BUILTIN: .. this costs 1 of MEMORY", and the other NODES cost none. */
    private static void memoryOfNodes() {
        for (Part part : new Part[] {lambda(unit()), delay(unit()), builtin(16)}) {
            exactly(part, 1, 1, 0);
            failsWith(part, 1, 0, 5);
            costs(1, 0, 0);
        }
        for (Part part : new Part[] {integer(MIN), text(FULL), truth(1), unit(), empty()}) {
            exactly(part, 1, 0, 0);
        }
        failsWith(error(), 1, 0, 1);
        failsWith(force(unit()), 2, 0, 2);
        failsWith(apply(unit(), unit()), 3, 0, 2);
        Part variables = let(delay(unit()), d -> force(d));
        exactly(variables, 3 + 3, 3, 1);
    }

    /** "the VALUE has to be DELAYED, else it fails (2)". */
    private static void whatIsForced() {
        Part[] kinds = eachKind();
        for (int kind = 0; kind < kinds.length; kind++) {
            fresh();
            due("run of FORCE of kind " + kind, runOf(force(kinds[kind])), kind == 6 ? 0 : 2);
            due("kind", x.kind(), kind == 6 ? 0 : NONE);
            costs(kind == 6 ? 3 : 2, kind >= 5 ? 1 : 0, 1);
        }
        failsWith(force(builtin(0, unit())), ALL_STEPS, ALL_MEMORY, 2);
        failsWith(force(force(delay(unit()))), ALL_STEPS, ALL_MEMORY, 2);
        failsWith(force(delay(error())), ALL_STEPS, ALL_MEMORY, 1);
        exactly(force(force(delay(delay(integer(5))))), 5, 2, 2);
    }

    /** "the first VALUE has to be a FUNCTION or BUILTIN, else it fails (2)", behind the argument. */
    private static void whatIsApplied() {
        Part[] kinds = eachKind();
        for (int kind = 0; kind < kinds.length; kind++) {
            boolean callable = kind == 5 || kind == 7;
            fresh();
            due("run of APPLY of kind " + kind, runOf(apply(kinds[kind], unit())), callable ? 0 : 2);
            due("kind", x.kind(), kind == 5 ? 0 : kind == 7 ? 7 : NONE);
            costs(kind == 5 ? 4 : 3, callable ? 2 : kind == 6 ? 1 : 0, 1);
            failsWith(apply(kinds[kind], error()), ALL_STEPS, ALL_MEMORY, 1);
            costs(3, kind >= 5 ? 1 : 0, 1);
            failsWith(apply(kinds[kind], unit()), 2, ALL_MEMORY, 4);
            costs(2, kind >= 5 ? 1 : 0, 1);
        }
        failsWith(apply(error(), force(unit())), ALL_STEPS, ALL_MEMORY, 1);
        failsWith(apply(unit(), force(unit())), ALL_STEPS, ALL_MEMORY, 2);
        costs(4, 0, 2);
    }

    /** "To CALL a FUNCTION costs 1 of MEMORY", before its body is EVALUATED. */
    private static void callOfFunction() {
        Part call = apply(lambda(integer(3)), unit());
        exactly(call, 4, 2, 1);
        failsWith(call, 4, 1, 5);
        costs(3, 1, 1);
        failsWith(call, 3, 1, 5);
        costs(3, 1, 1);
        failsWith(call, 3, 2, 4);
        costs(3, 2, 1);
        failsWith(call, 4, 0, 5);
        costs(2, 0, 1);
        failsWith(apply(lambda(error()), unit()), 4, 1, 5);
        failsWith(apply(lambda(error()), unit()), 4, 2, 1);
    }

    /** "To CALL a BUILTIN that takes more than one more VALUE costs 1 of MEMORY". */
    private static void callOfBuiltin() {
        exactly(builtin(0, integer(1)), 3, 2, 1);
        failsWith(builtin(0, integer(1)), 3, 1, 5);
        costs(3, 1, 1);
        exactly(builtin(16, truth(1)), 3, 2, 1);
        exactly(builtin(16, truth(1), unit()), 5, 3, 2);
        failsWith(builtin(16, truth(1), unit()), 5, 2, 5);
        costs(5, 2, 2);
        // A BUILTIN stays as it is whatever it is applied to: here to two VALUES in turn.
        fresh();
        comesTo(let(builtin(1, integer(10)), less -> builtin(2, apply(less, integer(3)), apply(less, integer(4)))),
                0, 42);
        Part three = let(builtin(16), b -> let(apply(b, truth(1)), c -> let(apply(c, integer(7)), d ->
                builtin(0, apply(d, unit()), apply(c, integer(8), unit())))));
        comesTo(three, 0, 15);
    }

    /** "it costs as many STEPS as the SIZES of all its VALUES together, and 1; then it fails (2) .." */
    private static void doneStepsFirst() {
        Part[] done = {builtin(0, integer(1), integer(2)), builtin(0, integer(1), unit()),
            builtin(0, unit(), integer(1)), builtin(3, integer(1), integer(0)), builtin(0, integer(MAX), integer(1))};
        int[] answers = {0, 2, 2, 3, 3};
        for (int i = 0; i < done.length; i++) {
            for (int steps = 5; steps <= 7; steps++) {
                failsWith(done[i], steps, ALL_MEMORY, 4);
                costs(5, 2, 2);
            }
            fresh();
            due("run with just so many", runOf(done[i], 8, ALL_MEMORY), answers[i]);
            costs(8, answers[i] == 0 ? 3 : 2, 2);
        }
        Part large = builtin(14, text(FULL), text(FULL));
        exactly(large, 5 + 1 + 9 + 9, 3, 2);
        failsWith(large, 5 + 1 + 9 + 8, 3, 4);
        costs(5, 2, 2);
        Part wrongKinds = builtin(0, text(FULL), text(FULL));
        failsWith(wrongKinds, 5 + 1 + 9 + 9, 3, 2);
        costs(24, 2, 2);
        failsWith(wrongKinds, 5 + 1 + 9 + 8, 3, 4);
        costs(5, 2, 2);
    }

    /** ".. (3) if there is no such result, and costs the SIZE of its result in MEMORY". */
    private static void doneMemoryLast() {
        failsWith(builtin(0, integer(1), integer(2)), 8, 2, 5);
        costs(8, 2, 2);
        failsWith(builtin(0, integer(1), unit()), 8, 2, 2);
        costs(8, 2, 2);
        failsWith(builtin(3, integer(1), integer(0)), 8, 2, 3);
        costs(8, 2, 2);
        // (2) before (3): there is no such byte either.
        failsWith(builtin(12, text(""), unit()), 8, 2, 2);
        failsWith(builtin(21, integer(128), unit()), 8, 2, 2);
        failsWith(builtin(3, unit(), integer(0)), 8, 2, 2);
        Part joined = builtin(10, text(FULL.substring(32)), text(FULL.substring(32)));
        exactly(joined, 5 + 1 + 5 + 5, 2 + 9, 2);
        failsWith(joined, ALL_STEPS, 2 + 8, 5);
        costs(16, 2, 2);
        Part data = builtin(28, empty(), empty());
        exactly(data, 5 + 1 + 1 + 1, 2 + 2, 2);
        failsWith(data, ALL_STEPS, 2 + 1, 5);
        costs(8, 2, 2);
    }

    /** What it costs to have each BUILTIN DONE, by the SIZES of what it takes and of its result. */
    private static void costOfEachBuiltin() {
        Part i = integer(17);
        Part s = text(FULL.substring(0, 20));
        Part t = text(FULL.substring(0, 4));
        Part c = constructor(1, dataText("123456789"), dataInteger(1));
        Part m = map(dataText("12345678"), dataText("1234567"));
        Part l = list(dataText("1234"), dataText("1234"), dataInteger(5));
        Part b = dataText(FULL.substring(0, 16));
        Part e = list(b, l);
        for (int builtin = 0; builtin <= 9; builtin++) {
            doneCosts(builtin, 2, 1, i, i);
        }
        doneCosts(10, 3 + 1, 4, s, t);
        doneCosts(11, 3, 1, s);
        doneCosts(12, 3 + 1, 1, s, i);
        doneCosts(13, 1 + 1 + 3, 1, i, i, s);
        doneCosts(14, 3 + 1, 1, s, t);
        doneCosts(15, 3 + 1, 1, s, t);
        doneCosts(16, 1 + 3 + 4, 3, truth(1), s, c);
        doneCosts(16, 1 + 3 + 4, 4, truth(0), s, c);
        doneCosts(17, 4 + 4, 1, c, m);
        doneCosts(18, 4, 1, m);
        doneCosts(19, 4, 1, c);
        doneCosts(20, 4, 4, c);
        doneCosts(21, 1 + 5, 5, i, l);
        doneCosts(22, 1, 1, i);
        doneCosts(23, 3, 3, s);
        doneCosts(24, 1, 1, dataInteger(9));
        doneCosts(25, 3, 3, b);
        doneCosts(26, 9, 3, e);
        doneCosts(26, 5, 1, l);
        doneCosts(27, 5, 3, l);
        doneCosts(27, 9, 6, e);
        doneCosts(28, 3 + 5, 8, b, l);
        doneCosts(29, 5, 1, l);
        doneCosts(30, 9, 9, e);
        doneCosts(31, 4, 4, m);
    }

    private static void doneCosts(int b, int sizes, int resultSize, Part... arguments) {
        int n = arguments.length;
        fresh();
        due("run before " + b, runOf(withAll(arguments, new Part[0], v -> unit())), 0);
        int steps = x.look(4) - 1 + 1 + 2 * n + 1 + sizes;
        int memory = x.look(5) + n + resultSize;
        Part whole = withAll(arguments, new Part[0], v -> builtin(b, v));
        due("run of " + b, runOf(whole), 0);
        due("STEPS of " + b, x.look(4), steps);
        due("MEMORY of " + b, x.look(5), memory);
        due("run with MEMORY one less", x.run(steps, memory - 1), 5);
        due("STEPS", x.look(4), steps);
        due("MEMORY", x.look(5), memory - resultSize);
        due("run with a STEP less", x.run(steps - 1, memory), 4);
        due("STEPS", x.look(4), steps - 1 - sizes);
        due("MEMORY", x.look(5), memory - resultSize);
    }

    private static Part withAll(Part[] values, Part[] bound, Function<Part[], Part> body) {
        if (bound.length == values.length) {
            return body.apply(bound);
        }
        return let(values[bound.length], v -> {
            Part[] more = Arrays.copyOf(bound, bound.length + 1);
            more[bound.length] = v;
            return withAll(values, more, body);
        });
    }

    // ---- WAITING ----

    /**
     * A base that is EVALUATED while so many FORCES, 320 or more, are WAITING. It is told a FUNCTION
     * that, applied to itself, comes to a DELAYED which comes to the same again.
     */
    private static Part underForces(int n, UnaryOperator<Part> base) {
        Part again = fun(self -> delay(apply(self, self)));
        Part eighty = fun(inner -> forces(80, apply(inner, unit())));
        return let(again, a -> let(eighty, e ->
                repeatedly(4, forces(n - 320, base.apply(a)), inner -> apply(e, lambda(inner)))));
    }

    /** "it fails (6) if it would be one of more than 400 WAITING", "With the STEP of an APPLY or FORCE". */
    private static void fourHundredWaiting() {
        UnaryOperator<Part> applied = a -> apply(a, a);
        UnaryOperator<Part> forced = a -> forceDelay(delay(apply(a, a)));
        UnaryOperator<Part> argument = a -> apply(lambda(variable(1)), delay(apply(a, a)));
        UnaryOperator<Part> function = a -> apply(lambda(delay(apply(a, a))), unit());
        for (UnaryOperator<Part> base : Arrays.asList(applied, forced, argument, function)) {
            fresh();
            due("run", runOf(underForces(399, base)), 0);
            due("kind", x.kind(), 6);
            due("the most WAITING", x.look(6), 400);
            fresh();
            fails(underForces(400, base), 6);
            costs(400 + 30 + 1, 18, 400);
            due("answer", x.look(3), 6);
            due("run with STEPS for all but that", x.run(400 + 30, ALL_MEMORY), 4);
            costs(400 + 30, 18, 400);
            due("run with STEPS for just that", x.run(400 + 30 + 1, 18), 6);
            costs(400 + 30 + 1, 18, 400);
            fresh();
            fails(underForces(401, base), 6);
            costs(400 + 30 + 1, 18, 400);
        }
        exactly(underForces(399, applied), 399 + 30 + 4 + 399 * 4, 18 + 2 + 399 * 2, 400);
        exactly(underForces(398, applied), 398 + 30 + 4 + 398 * 4, 18 + 2 + 398 * 2, 399);
        // What is not an APPLY or FORCE is EVALUATED with 400 WAITING.
        exactly(underForces(400, a -> delay(apply(a, a))), 400 + 30 + 1 + 400 * 4, 18 + 1 + 400 * 2, 400);
        failsWith(underForces(400, a -> error()), ALL_STEPS, ALL_MEMORY, 1);
        failsWith(underForces(400, a -> unit()), ALL_STEPS, ALL_MEMORY, 2);
        costs(400 + 30 + 1, 18, 400);
        // Within an argument one more is WAITING, within a function too.
        for (UnaryOperator<Part> base : Arrays.<UnaryOperator<Part>>asList(
                a -> apply(lambda(variable(1)), apply(a, a)),
                a -> apply(apply(lambda(lambda(delay(apply(a, a)))), unit()), unit()),
                a -> force(force(delay(delay(delay(apply(a, a)))))))) {
            fresh();
            due("run", runOf(underForces(398, base)), 0);
            due("the most WAITING", x.look(6), 400);
            failsWith(underForces(399, base), ALL_STEPS, ALL_MEMORY, 6);
            due("the most WAITING", x.look(6), 400);
        }
    }

    /** "not what has come to a body". */
    private static void bodiesAreNotWaiting() {
        fresh();
        Part calls = fun(self -> apply(self, self));
        due("run of CALLS without end", runOf(apply(calls, calls)), 5);
        costs(3 + 3 * 2998, 3000, 1);
        Part delays = fun(self -> forceDelay(apply(self, self)));
        due("run of FORCES without end", runOf(apply(delays, delays)), 5);
        // Each time FORCE, DELAY, APPLY and two VARIABLES; 1 for DELAYED, 1 for the CALL.
        costs(3 + 5 * 1499, 3000, 1);
        Part inArgument = fun(self -> apply(lambda(variable(1)), apply(self, self)));
        due("run of arguments without end", runOf(apply(inArgument, inArgument)), 6);
        due("the most WAITING", x.look(6), 400);
    }

    // ---- budgets ----

    /** FORCES a DELAYED leaf 2 to the power of n times, one behind the other. */
    private static Part doubled(int n, Part leaf) {
        return let(delay(leaf), d -> doubledFrom(n, d));
    }

    private static Part doubledFrom(int n, Part delayed) {
        if (n == 0) {
            return force(delayed);
        }
        return let(delay(then(force(delayed), force(delayed))), d -> doubledFrom(n - 1, d));
    }

    /** "so many STEPS, 0 .. 20000": a TERM that takes them all. */
    private static void allSteps() {
        // APPLY, VARIABLE and BYTES, and 1 + 9 + 9 to have it DONE: 22 STEPS.
        Part term = let(builtin(14, text(FULL)), same -> {
            Part once = apply(same, text(FULL));
            return forceDelay(doubled(8, forceDelay(then(once, then(once, once)))));
        });
        int leafs = 256 * (3 * 22 + 2 * 2 + 2 + 2);
        int steps = 5 + 2 + 9 * 3 + leafs + 255 * 4;
        int memory = 4 + 1 + 9 * 3 + 256 * 8 + 255 * 2;
        due("STEPS but two", steps, ALL_STEPS - 2);
        exactly(forceDelay(term), ALL_STEPS, memory + 1, 8 + 2);
        fresh();
        due("run of one STEP more than there can be", runOf(then(term, unit())), 4);
        costs(ALL_STEPS, memory + 2, 1 + 8 + 2);
    }

    /** "so much MEMORY, 0 .. 3000": a TERM that takes it all. */
    private static void allMemory() {
        // The result is 9 of MEMORY.
        Part term = let(builtin(13, integer(0), integer(64)), whole -> {
            Part once = apply(whole, text(FULL));
            Part leaf = repeatedly(4, integer(6), part -> then(once, part));
            Part padded = repeatedly(2, doubled(6, leaf), part -> then(once, part));
            return repeatedly(5, padded, part -> then(unit(), part));
        });
        fresh();
        comesTo(term, 0, 6);
        due("MEMORY", x.look(5), ALL_MEMORY);
        int steps = x.look(4);
        due("run with one less", x.run(ALL_STEPS, ALL_MEMORY - 1), 5);
        due("run with just so much", x.run(steps, ALL_MEMORY), 0);
        fresh();
        due("run of more than there can be", runOf(forceDelay(term)), 5);
        // FORCE and DELAY more, and all but the body of the last CALL.
        costs(steps + 2 - 1, ALL_MEMORY, 6 + 2);
        due("kind", x.kind(), NONE);
    }

    /** DATA stay as they are up to the last MEMORY that there is for them. */
    private static void rowsOfDataAllButFull() {
        int times = 19;
        Part term = withPowers(p -> let(builtin(28, dataInteger(-7)), more ->
                repeatedly(times, p.get(7), list -> apply(more, list))));
        fresh();
        comesTo(term, 4, 128 + times);
        due("whether MEMORY is all but used up", x.look(5) > 2900, true);
        due("how many", x.data(0, 1), 7 + times);
        due("DEPTH", x.data(0, 3), 8);
        for (int k = 1; k <= times; k++) {
            due("value of NODE " + k, x.dataValue(k), -7);
        }
        due("NODES of the next", x.data(times + 1, 1), 6);
        due("the last", x.data(127 + times, 0), 2);
        due("run with MEMORY one less", x.run(ALL_STEPS, x.look(5) - 1), 5);
        Part endless = withPowers(p -> let(fun(self -> then(builtin(28, p.get(6), p.get(7)), apply(self, self))),
                loop -> apply(loop, loop)));
        failsWith(endless, ALL_STEPS, ALL_MEMORY, 5);
        due("whether there is no room for one more", x.look(5) > ALL_MEMORY - 200, true);
    }

    /** BYTES stay as they are up to the last MEMORY that there is for them. */
    private static void rowsOfBytesAllButFull() {
        // 63 are the most BYTES for their SIZE: 352 times 63 bytes for 8 of MEMORY.
        String most = FULL.substring(1);
        Part term = let(builtin(10, text("")), join ->
                doubled(5, repeatedly(11, text(most), bytes -> apply(join, bytes))));
        fresh();
        comesToBytes(term, most);
        due("MEMORY", x.look(5), 4 + 6 * 3 + 352 * 8 + 31 * 2);
        Part endless = let(fun(self -> then(builtin(10, text(FULL), text("")), apply(self, self))),
                loop -> apply(loop, loop));
        failsWith(endless, ALL_STEPS, ALL_MEMORY, 5);
        due("whether there is no room for one more", x.look(5) > ALL_MEMORY - 14, true);
        comesToBytes(text(FULL), FULL);
    }

    // ---- the BUILTINS ----

    private static void results(int b, int kind, long[][] rows) {
        for (long[] row : rows) {
            fresh();
            comesTo(builtin(b, integer(row[0]), integer(row[1])), kind, row[2]);
        }
    }

    private static void noResults(int b, long[][] rows) {
        for (long[] row : rows) {
            fresh();
            fails(builtin(b, integer(row[0]), integer(row[1])), 3);
            costs(8, 2, 2);
        }
    }

    /** "0 (i, i) sum; 1 difference": "no such result: it is no long". */
    private static void sums() {
        results(0, 0, new long[][] {{MAX, 0, MAX}, {0, MIN, MIN}, {MAX - 1, 1, MAX}, {1, MAX - 1, MAX},
            {MIN + 1, -1, MIN}, {-1, MIN + 1, MIN}, {MAX, MIN, -1}, {1L << 62, (1L << 62) - 1, MAX},
            {-(1L << 62), -(1L << 62), MIN}});
        noResults(0, new long[][] {{MAX, 1}, {1, MAX}, {MIN, -1}, {-1, MIN}, {MAX, MAX}, {MIN, MIN},
            {1L << 62, 1L << 62}, {-(1L << 62) - 1, -(1L << 62)}});
        results(1, 0, new long[][] {{MAX, 0, MAX}, {MIN, 0, MIN}, {MAX - 1, -1, MAX}, {MIN + 1, 1, MIN},
            {-1, MIN, MAX}, {-1, MAX, MIN}, {0, MAX, -MAX}, {MAX, MAX, 0}, {MIN, MIN, 0}, {0, MIN + 1, MAX}});
        noResults(1, new long[][] {{MAX, -1}, {MIN, 1}, {0, MIN}, {-2, MAX}, {MAX, MIN}, {MIN, MAX}});
    }

    /** "2 product": "no such result: it is no long". */
    private static void products() {
        long root = 3037000499L;
        long third = MAX / 3;
        results(2, 0, new long[][] {{MAX, 1, MAX}, {1, MIN, MIN}, {MAX, -1, -MAX}, {-1, MAX, -MAX},
            {MIN + 1, -1, MAX}, {MIN, 0, 0}, {0, MIN, 0}, {root, root, root * root}, {-root, root, -root * root},
            {1L << 31, -(1L << 32), MIN}, {-(1L << 32), 1L << 31, MIN}, {MIN / 2, 2, MIN}, {2, MAX / 2, MAX - 1},
            {third, 3, third * 3}, {-3, third, third * -3}, {MIN, 1, MIN}, {0, 0, 0}, {0, -1, 0}});
        noResults(2, new long[][] {{MIN, -1}, {-1, MIN}, {root + 1, root + 1}, {root + 1, -root - 1},
            {1L << 31, 1L << 32}, {MIN / 2, -2}, {2, MAX / 2 + 1}, {MIN / 2 - 1, 2}, {third + 1, 3}, {-3, third + 1},
            {MIN, 2}, {2, MIN}, {MIN, MIN}, {MAX, MAX}, {MAX, MIN}, {1L << 32, 1L << 32}});
    }

    /** "3 quotient, 4 remainder, rounded down; 5 .. 6 .. towards 0 (.. no long, or the second is 0)". */
    private static void quotients() {
        for (long[] row : new long[][] {{MAX, 1, MAX, 0, MAX, 0}, {MAX, -1, -MAX, 0, -MAX, 0},
            {MIN, 1, MIN, 0, MIN, 0}, {MIN + 1, -1, MAX, 0, MAX, 0}, {MIN, MIN, 1, 0, 1, 0}, {MAX, MAX, 1, 0, 1, 0},
            {MAX, MIN, -1, -1, 0, MAX}, {MIN, MAX, -2, MAX - 1, -1, -1}, {1, MIN, -1, MIN + 1, 0, 1},
            {-1, MIN, 0, -1, 0, -1}, {-1, MAX, -1, MAX - 1, 0, -1}, {0, MIN, 0, 0, 0, 0}, {0, MAX, 0, 0, 0, 0},
            {MIN, 2, MIN / 2, 0, MIN / 2, 0}, {MIN, -2, -(MIN / 2), 0, -(MIN / 2), 0}, {-1, 2, -1, 1, 0, -1},
            {1, -2, -1, -1, 0, 1}, {-4, 2, -2, 0, -2, 0}, {5, 5, 1, 0, 1, 0}, {4, 5, 0, 4, 0, 4},
            {-4, 5, -1, 1, 0, -4}, {4, -5, -1, -1, 0, 4}, {-6, 5, -2, 4, -1, -1}}) {
            for (int b = 3; b <= 6; b++) {
                results(b, 0, new long[][] {{row[0], row[1], row[b - 1]}});
            }
        }
        for (int b = 3; b <= 6; b++) {
            noResults(b, new long[][] {{0, 0}, {1, 0}, {-1, 0}, {MAX, 0}, {MIN, 0}});
        }
        noResults(3, new long[][] {{MIN, -1}});
        noResults(5, new long[][] {{MIN, -1}});
        // The remainder is a long, though the quotient is none.
        results(4, 0, new long[][] {{MIN, -1, 0}});
        results(6, 0, new long[][] {{MIN, -1, 0}});
    }

    /** "7 (i, i) TRUTH: equal; 8 less; 9 at most". */
    private static void comparisons() {
        long[] ordered = {MIN, MIN + 1, -(1L << 32), -1, 0, 1, 1L << 32, MAX - 1, MAX};
        for (int i = 0; i < ordered.length; i++) {
            for (int j = 0; j < ordered.length; j++) {
                long[] pair = {ordered[i], ordered[j], 0};
                results(7, 2, new long[][] {{pair[0], pair[1], i == j ? 1 : 0}});
                results(8, 2, new long[][] {{pair[0], pair[1], i < j ? 1 : 0}});
                results(9, 2, new long[][] {{pair[0], pair[1], i <= j ? 1 : 0}});
            }
        }
    }

    /** "10 (s, s) one behind the other (none if more than 64)". */
    private static void joinedBytes() {
        for (int first : new int[] {0, 1, 31, 32, 33, 63, 64}) {
            fresh();
            comesToBytes(builtin(10, text(FULL.substring(0, first)), text(FULL.substring(first))), FULL);
            if (first > 0) {
                failsWith(builtin(10, text(FULL.substring(0, first)), text(FULL.substring(first - 1))),
                        ALL_STEPS, ALL_MEMORY, 3);
            }
        }
        failsWith(builtin(10, text("a"), text(FULL)), ALL_STEPS, ALL_MEMORY, 3);
        failsWith(builtin(10, text(FULL), text(FULL)), ALL_STEPS, ALL_MEMORY, 3);
        fresh();
        comesToBytes(builtin(10, text(""), text("")), "");
    }

    /** "11 (s) how many; 12 (s, i) byte i, 0 .. 255 (none if there is none)". */
    private static void bytesByPlace() {
        for (int n : new int[] {0, 1, 63, 64}) {
            Part bytes = text(FULL.substring(0, n));
            fresh();
            comesTo(builtin(11, bytes), 0, n);
            for (long i : new long[] {MIN, -1L << 32, -1, n, n + 1, 64, 1L << 32, (1L << 32) + n - 1, MAX}) {
                failsWith(builtin(12, bytes, integer(i)), ALL_STEPS, ALL_MEMORY, 3);
                costs(5 + 1 + 1 + n / 8 + 1, 2, 2);
            }
            for (int i = 0; i < n; i++) {
                fresh();
                comesTo(builtin(12, bytes, integer(i)), 0, FULL.charAt(i));
            }
        }
    }

    /** "13 (i, i, s) from a place on (below 0: from 0 on), so many (below 0: none), as far as there are". */
    private static void slices() {
        long[] numbers = {MIN, -1L << 32, -2, -1, 0, 1, 2, 3, 4, 5, 6, 1L << 32, (1L << 32) + 2, MAX - 1, MAX};
        for (long place : numbers) {
            for (long many : numbers) {
                sliceIs("abcd", place, many);
            }
        }
        sliceIs("", 0, 0);
        sliceIs("", 0, 1);
        for (long place : new long[] {0, 1, 62, 63, 64, 65}) {
            for (long many : new long[] {0, 1, 2, 63, 64, 65}) {
                sliceIs(FULL, place, many);
            }
        }
        fresh();
        comesToBytes(builtin(13, integer(1), integer(2), builtin(13, integer(1), integer(3), text("abcde"))), "cd");
    }

    private static void sliceIs(String bytes, long place, long many) {
        int from = place < 0 ? 0 : (int) Math.min(place, bytes.length());
        int length = many < 0 ? 0 : (int) Math.min(many, bytes.length() - from);
        fresh();
        comesToBytes(builtin(13, integer(place), integer(many), text(bytes)), bytes.substring(from, from + length));
    }

    /** "14 (s, s) equal; 15 less, byte by byte .. (one that the other one begins with is less)". */
    private static void comparedBytes() {
        String short63 = FULL.substring(0, 63);
        String[] ordered = {"", "\u0000", "\u0000\u0000", "\u0001", "a", "a\u0000", "aa", "ab", "b", "\u007f",
            "\u0080", "\u00ff", "\u00ff\u0000", "\u00ff\u00ff"};
        for (int i = 0; i < ordered.length; i++) {
            for (int j = 0; j < ordered.length; j++) {
                bytesCompare(ordered[i], ordered[j], i == j, i < j);
            }
        }
        bytesCompare(short63, FULL, false, true);
        bytesCompare(FULL, short63, false, false);
        bytesCompare(FULL, FULL, true, false);
        bytesCompare(short63 + "y", FULL, false, true);
        bytesCompare(FULL, short63 + "y", false, false);
        // What stands behind a part of BYTES is none of it.
        Part part = builtin(13, integer(1), integer(2), text("xabz"));
        fresh();
        comesTo(builtin(14, part, text("ab")), 2, 1);
        comesTo(builtin(14, part, text("abz")), 2, 0);
        comesTo(builtin(15, part, text("aba")), 2, 1);
        comesTo(builtin(15, text("aba"), part), 2, 0);
        comesTo(builtin(15, part, text("ab")), 2, 0);
    }

    private static void bytesCompare(String a, String b, boolean equal, boolean less) {
        fresh();
        comesTo(builtin(14, text(a), text(b)), 2, equal ? 1 : 0);
        comesTo(builtin(15, text(a), text(b)), 2, less ? 1 : 0);
    }

    /** "16 (t, v, v) the first VALUE if the TRUTH is so, else the second": of any kind. */
    private static void choices() {
        Part[] kinds = eachKind();
        for (int i = 0; i < kinds.length; i++) {
            for (int j = 0; j < kinds.length; j++) {
                fresh();
                due("run", runOf(builtin(16, truth(1), kinds[i], kinds[j])), 0);
                due("kind of the first", x.kind(), i);
                due("run", runOf(builtin(16, truth(0), kinds[i], kinds[j])), 0);
                due("kind of the second", x.kind(), j);
            }
            fresh();
            due("run with kind " + i + " for a TRUTH", runOf(builtin(16, kinds[i], unit(), unit())), i == 2 ? 0 : 2);
        }
    }

    /** "17 (d, d) equal": to itself, and to nothing that differs in one place. */
    private static void equalData() {
        Part[] all = {constructor(0), constructor(127), constructor(0, empty()), map(), map(empty(), empty()),
            empty(), list(empty()), list(empty(), empty()), list(list(empty())), dataInteger(0), dataInteger(1L << 32),
            dataInteger(127), dataText(""), dataText("\u0000"), dataText("a"), dataText("ab"), dataText("ac"),
            list(dataInteger(1), dataInteger(2)), list(dataInteger(2), dataInteger(1)), list(list(), list(list())),
            list(list(list()), list()), constructor(1, dataText("a"), dataText("b")),
            constructor(1, dataText("ab"), dataText("")), map(dataInteger(1), dataInteger(2)),
            map(dataInteger(2), dataInteger(1))};
        for (int i = 0; i < all.length; i++) {
            for (int j = 0; j < all.length; j++) {
                fresh();
                comesTo(builtin(17, all[i], all[j]), 2, i == j ? 1 : 0);
            }
        }
        equalHoweverMade();
    }

    private static void equalHoweverMade() {
        Part one = dataInteger(1);
        Part two = dataText("ab");
        Part both = list(one, two);
        Part[][] equals = {
            {both, builtin(31, map(one, two))},
            {both, builtin(20, constructor(9, one, two))},
            {both, builtin(27, list(empty(), one, two))},
            {both, builtin(26, list(both, empty()))},
            {empty(), builtin(20, constructor(5))},
            {empty(), builtin(27, list(two))},
            {empty(), builtin(31, map())},
            {map(one, two), builtin(30, builtin(31, map(one, two)))},
            {constructor(9, one, two), builtin(21, integer(9), builtin(31, map(one, two)))},
            {one, builtin(22, builtin(24, one))},
            {two, builtin(23, builtin(13, integer(1), integer(2), text("xabx")))},
            {two, builtin(23, builtin(10, text("a"), text("b")))}};
        for (Part[] pair : equals) {
            fresh();
            comesTo(builtin(17, pair[0], pair[1]), 2, 1);
            comesTo(builtin(17, pair[1], pair[0]), 2, 1);
        }
    }

    /** "a CONSTRUCTOR with a number 0 .. 127", "21 .. (none if the number is none ..)", 19 and 20. */
    private static void constructors() {
        for (long number : new long[] {0, 1, 126, 127}) {
            fresh();
            comesToData(constructor(number), "c0#" + number + "/1");
            comesToData(constructor(number, empty()), "c1#" + number + "/2 l0/1");
            comesTo(builtin(19, constructor(number, empty())), 0, number);
            comesToData(builtin(20, constructor(number)), "l0/1");
            comesToData(builtin(20, constructor(number, dataInteger(number))), "l1/2 i" + number + "/1");
        }
        for (long number : new long[] {MIN, -1L << 32, -128, -1, 128, 255, 256, 1L << 32, (1L << 32) + 1, MAX}) {
            fresh();
            fails(constructor(number), 3);
            costs(5 + 1 + 1 + 1, 2, 2);
        }
    }

    /** "22 (i) DATA; 23 (s) DATA; 24 (d, an INTEGER) an INTEGER; 25 (d, BYTES) BYTES". */
    private static void dataAndBack() {
        for (long n : new long[] {MIN, -1, 0, 1, 1L << 32, MAX}) {
            fresh();
            comesToData(dataInteger(n), "i" + n + "/1");
            comesTo(builtin(24, dataInteger(n)), 0, n);
        }
        for (int n : new int[] {0, 1, 8, 63, 64}) {
            String bytes = FULL.substring(0, n);
            fresh();
            comesToBytes(builtin(25, dataText(bytes)), bytes);
            comesTo(dataText(bytes), 4, 1);
            due("how many", x.data(0, 1), n);
            due("the last byte", x.dataByte(0, n - 1), n == 0 ? NONE : bytes.charAt(n - 1));
            due("one behind it", x.dataByte(0, n), NONE);
        }
    }

    /** "26 (l) its first; 27 the others, a LIST (both none if it is EMPTY)", "29 (l) TRUTH: EMPTY". */
    private static void firstAndOthers() {
        Part one = list(dataInteger(4));
        Part two = list(dataInteger(4), dataInteger(5));
        for (Part none : new Part[] {empty(), builtin(27, one), builtin(20, constructor(9)), builtin(31, map())}) {
            fresh();
            comesTo(builtin(29, none), 2, 1);
            fails(builtin(26, none), 3);
            fails(builtin(27, none), 3);
        }
        fresh();
        comesToData(builtin(26, one), "i4/1");
        comesToData(builtin(27, one), "l0/1");
        comesTo(builtin(29, one), 2, 0);
        comesToData(builtin(26, two), "i4/1");
        comesToData(builtin(27, two), "l1/2 i5/1");
        comesToData(builtin(26, list(empty())), "l0/1");
        comesTo(builtin(29, list(empty())), 2, 0);
        fresh();
        failsWith(builtin(26, constructor(1, empty())), ALL_STEPS, ALL_MEMORY, 2);
        failsWith(builtin(27, map(empty(), empty())), ALL_STEPS, ALL_MEMORY, 2);
        failsWith(builtin(29, constructor(1)), ALL_STEPS, ALL_MEMORY, 2);
        failsWith(builtin(29, map()), ALL_STEPS, ALL_MEMORY, 2);
    }

    /** "30 (l) a MAP .. (none if that is an odd number); 31 (d, a MAP) the LIST .. in turn". */
    private static void mapsOfLists() {
        StringBuilder shown = new StringBuilder();
        Part list = empty();
        for (int n = 0; n <= 9; n++) {
            fresh();
            if (n % 2 == 1) {
                failsWith(builtin(30, list), ALL_STEPS, ALL_MEMORY, 3);
            } else {
                int depth = n == 0 ? 1 : 2;
                comesToData(builtin(30, list), "m" + n / 2 + "/" + depth + shown);
                comesToData(builtin(31, builtin(30, list)), "l" + n + "/" + depth + shown);
            }
            list = ahead(dataInteger(n), list);
            shown.insert(0, " i" + n + "/1");
        }
        failsWith(builtin(30, constructor(1)), ALL_STEPS, ALL_MEMORY, 2);
        failsWith(builtin(30, map()), ALL_STEPS, ALL_MEMORY, 2);
        failsWith(builtin(31, empty()), ALL_STEPS, ALL_MEMORY, 2);
    }
}
