/**
 * Evaluates TERMS of functions by value, under budgets of STEPS, MEMORY and WAITING.
 *
 * All rows are made once, in the constructors, and used again by every run: what a run makes is
 * bounded by the MEMORY that it pays for, so the rows never have to grow.
 */
public final class CekMachine {
    public static final int NONE = -1;

    private static final int MOST_NODES = 200;
    private static final int MOST_BYTES = 64;
    private static final int MOST_BYTES_AT_ONCE = 8;
    private static final int MOST_DEPTH = 12;
    private static final int MOST_CONSTRUCTOR = 127;
    private static final int MOST_STEPS = 20000;
    private static final int MOST_MEMORY = 3000;
    private static final int MOST_WAITING = 400;
    private static final int MOST_ARGUMENTS = 3;

    // A turn EVALUATES a NODE, has a BUILTIN DONE or hands a VALUE to what is WAITING: no STEP brings
    // more than four of them.
    private static final int MOST_TURNS = 1000000;

    // Every VALUE that is no constant of the TERM has cost MEMORY; one result may be unpaid.
    private static final int VALUES_ROOM = MOST_NODES + MOST_MEMORY + 1;
    // The SIZE of DATA is no less than its NODES; one EMPTY is shared, one result may be unpaid.
    private static final int DATA_ROOM = 1 + MOST_MEMORY + MOST_NODES;
    private static final int CONSTANT_BYTES = MOST_NODES * MOST_BYTES;
    // BYTES are fewer than 8 times their SIZE; one result may be unpaid.
    private static final int BYTES_ROOM = CONSTANT_BYTES + 8 * MOST_MEMORY + MOST_BYTES;

    private static final int NODE_VARIABLE = 0;
    private static final int NODE_LAMBDA = 1;
    private static final int NODE_APPLY = 2;
    private static final int NODE_DELAY = 3;
    private static final int NODE_FORCE = 4;
    private static final int NODE_ERROR = 5;
    private static final int NODE_BUILTIN = 6;
    private static final int NODE_INTEGER = 7;
    private static final int NODE_BYTES = 8;
    private static final int NODE_TRUTH = 9;
    private static final int NODE_UNIT = 10;
    private static final int NODE_EMPTY = 11;

    private static final int INTEGER = 0;
    private static final int BYTES = 1;
    private static final int TRUTH = 2;
    private static final int UNIT = 3;
    private static final int DATA = 4;
    private static final int FUNCTION = 5;
    private static final int DELAYED = 6;
    private static final int BUILTIN = 7;

    private static final int FORM_CONSTRUCTOR = 0;
    private static final int FORM_MAP = 1;
    private static final int FORM_LIST = 2;
    private static final int FORM_INTEGER = 3;
    private static final int FORM_BYTES = 4;

    private static final int FAIL_ERROR = 1;
    private static final int FAIL_KIND = 2;
    private static final int FAIL_NO_RESULT = 3;
    private static final int FAIL_STEPS = 4;
    private static final int FAIL_MEMORY = 5;
    private static final int FAIL_WAITING = 6;

    private final Terms terms;
    private final Evaluator evaluator;
    private int answer;

    public CekMachine() {
        terms = new Terms();
        evaluator = new Evaluator(terms);
        answer = NONE;
    }

    public void clear() {
        terms.forget();
    }

    public int node(int kind, long arg) throws IllegalArgumentException, IllegalStateException {
        if (!Terms.allows(kind, arg)) {
            throw new IllegalArgumentException("no such kind or arg");
        }
        if (terms.count() < Terms.partsOf(kind) || terms.isFull()) {
            throw new IllegalStateException("too few TERMS or too many NODES");
        }
        terms.push(kind, arg);
        return terms.count();
    }

    public int bytes(long part, int n) throws IllegalArgumentException, IllegalStateException {
        if (n < 0 || n > MOST_BYTES_AT_ONCE) {
            throw new IllegalArgumentException("no such number of bytes");
        }
        if (terms.isFull()) {
            throw new IllegalStateException("too many NODES");
        }
        terms.push(NODE_BYTES, 0);
        terms.lengthen(part, n);
        return terms.count();
    }

    public boolean more(long part, int n) {
        if (n < 1 || n > MOST_BYTES_AT_ONCE || !terms.canLengthen(n)) {
            return false;
        }
        terms.lengthen(part, n);
        return true;
    }

    public boolean drop() {
        return terms.pop();
    }

    public int run(int steps, int memory) throws IllegalStateException, IllegalArgumentException {
        if (terms.count() == 0 || terms.lacksOfLast() != 0) {
            throw new IllegalStateException("no TERM that is CLOSED");
        }
        if (steps < 0 || steps > MOST_STEPS || memory < 0 || memory > MOST_MEMORY) {
            throw new IllegalArgumentException("no such budget");
        }
        answer = evaluator.evaluateLast(steps, memory);
        return answer;
    }

    public int kind() {
        return evaluator.values.kindOf(result());
    }

    public long number() throws IllegalStateException {
        int value = result();
        if (value == NONE) {
            throw new IllegalStateException("no result");
        }
        return evaluator.values.asNumber(value);
    }

    public int byteAt(int k) {
        Values values = evaluator.values;
        int value = result();
        if (values.kindOf(value) != BYTES || k < 0 || k >= values.lengthOf(value)) {
            return NONE;
        }
        return values.bytes.at(values.startOf(value) + k);
    }

    public int data(int k, int w) {
        DataRow rows = evaluator.values.data;
        int place = placeOfData(k);
        int form = rows.formOf(place);
        switch (w) {
            case 0:
                return form;
            case 1:
                return form == FORM_INTEGER ? NONE : rows.countOf(place);
            case 2:
                return form == FORM_CONSTRUCTOR ? (int) rows.numberOf(place) : NONE;
            case 3:
                return rows.depthOf(place);
            default:
                return NONE;
        }
    }

    public long dataValue(int k) throws IllegalStateException {
        DataRow rows = evaluator.values.data;
        int place = placeOfData(k);
        if (rows.formOf(place) != FORM_INTEGER) {
            throw new IllegalStateException("no INTEGER of DATA there");
        }
        return rows.numberOf(place);
    }

    public int dataByte(int k, int j) {
        DataRow rows = evaluator.values.data;
        int place = placeOfData(k);
        if (rows.formOf(place) != FORM_BYTES || j < 0 || j >= rows.countOf(place)) {
            return NONE;
        }
        return evaluator.values.bytes.at((int) rows.numberOf(place) + j);
    }

    public int look(int which) {
        switch (which) {
            case 0:
                return terms.count();
            case 1:
                return terms.nodeCount();
            case 2:
                return terms.lacksOfLast();
            case 3:
                return answer;
            case 4:
                return answer == NONE ? NONE : evaluator.meter.steps();
            case 5:
                return answer == NONE ? NONE : evaluator.meter.memory();
            case 6:
                return answer == NONE ? NONE : evaluator.waiting.most();
            default:
                return NONE;
        }
    }

    private int result() {
        return answer == 0 ? evaluator.outcome() : NONE;
    }

    /** Where NODE k of the result, DATA, stands in the rows of DATA; NONE if there is none such. */
    private int placeOfData(int k) {
        Values values = evaluator.values;
        int value = result();
        if (values.kindOf(value) != DATA) {
            return NONE;
        }
        int root = values.rootOf(value);
        return k >= 0 && k < values.data.nodesOf(root) ? root + k : NONE;
    }

    /**
     * The STACK of TERMS, each NODE behind its parts. So a TERM is a stretch that ends with its
     * root: the last part of a root stands right before it, the part before that right before the
     * stretch of the last one.
     */
    private static final class Terms {
        private final int[] kinds = new int[MOST_NODES];
        private final long[] args = new long[MOST_NODES];
        private final int[] firsts = new int[MOST_NODES];
        private final int[] lacks = new int[MOST_NODES];
        private final ByteRow text = new ByteRow(CONSTANT_BYTES);
        private int nodes = 0;
        private int count = 0;

        static boolean allows(int kind, long arg) {
            switch (kind) {
                case NODE_VARIABLE:
                    return arg >= 1 && arg <= MOST_NODES;
                case NODE_BUILTIN:
                    return arg >= 0 && arg < Builtins.COUNT;
                case NODE_INTEGER:
                    return true;
                case NODE_TRUTH:
                    return arg == 0 || arg == 1;
                case NODE_LAMBDA:
                case NODE_APPLY:
                case NODE_DELAY:
                case NODE_FORCE:
                case NODE_ERROR:
                case NODE_UNIT:
                case NODE_EMPTY:
                    return arg == 0;
                default:
                    return false;
            }
        }

        static int partsOf(int kind) {
            if (kind == NODE_APPLY) {
                return 2;
            }
            return kind == NODE_LAMBDA || kind == NODE_DELAY || kind == NODE_FORCE ? 1 : 0;
        }

        int count() {
            return count;
        }

        int nodeCount() {
            return nodes;
        }

        boolean isFull() {
            return nodes >= MOST_NODES;
        }

        /** The root of the last TERM; NONE without one. */
        int last() {
            return nodes - 1;
        }

        int lacksOfLast() {
            return lacksOf(last());
        }

        int kindOf(int node) {
            return has(node) ? kinds[node] : NONE;
        }

        /** The argument of a NODE; of BYTES how many they are. */
        long argOf(int node) {
            return has(node) ? args[node] : 0;
        }

        int firstOf(int node) {
            return has(node) ? firsts[node] : 0;
        }

        /** The body of a LAMBDA or DELAY, the term of a FORCE, the argument of an APPLY. */
        int lastPartOf(int node) {
            return node - 1;
        }

        int functionOf(int apply) {
            return firstOf(lastPartOf(apply)) - 1;
        }

        int textAt(int node, int k) {
            return text.at(node * MOST_BYTES + k);
        }

        void forget() {
            nodes = 0;
            count = 0;
        }

        void push(int kind, long arg) {
            if (isFull() || count < partsOf(kind)) {
                return;
            }
            kinds[nodes] = kind;
            args[nodes] = arg;
            firsts[nodes] = firstOfNew(kind);
            lacks[nodes] = lacksOfNew(kind, arg);
            count += 1 - partsOf(kind);
            nodes++;
        }

        boolean pop() {
            if (count == 0) {
                return false;
            }
            nodes = firstOf(last());
            count--;
            return true;
        }

        boolean canLengthen(int n) {
            return kindOf(last()) == NODE_BYTES && argOf(last()) + n <= MOST_BYTES;
        }

        /** The last TERM, BYTES, gets the n lowest bytes of part, the highest first. */
        void lengthen(long part, int n) {
            if (n < 0 || n > MOST_BYTES_AT_ONCE || !canLengthen(n)) {
                return;
            }
            int behind = last() * MOST_BYTES + (int) argOf(last());
            for (int i = 0; i < n; i++) {
                text.put(behind + i, (int) (part >>> (8 * (n - 1 - i))));
            }
            args[last()] += n;
        }

        private boolean has(int node) {
            return node >= 0 && node < nodes;
        }

        private int lacksOf(int node) {
            return has(node) ? lacks[node] : NONE;
        }

        private int firstOfNew(int kind) {
            if (kind == NODE_APPLY) {
                return firstOf(functionOf(nodes));
            }
            return partsOf(kind) == 1 ? firstOf(lastPartOf(nodes)) : nodes;
        }

        private int lacksOfNew(int kind, long arg) {
            int within = lacksOf(lastPartOf(nodes));
            switch (kind) {
                case NODE_VARIABLE:
                    return (int) arg;
                case NODE_LAMBDA:
                    return Math.max(0, within - 1);
                case NODE_APPLY:
                    return Math.max(lacksOf(functionOf(nodes)), within);
                case NODE_DELAY:
                case NODE_FORCE:
                    return within;
                default:
                    return 0;
            }
        }
    }

    /** Bytes, 0 .. 255 each, that are named by where they start and how many they are. */
    private static final class ByteRow {
        private final byte[] row;
        private int top = 0;

        ByteRow(int room) {
            row = new byte[Math.max(0, room)];
        }

        int at(int place) {
            return place >= 0 && place < row.length ? row[place] & 255 : NONE;
        }

        void put(int place, int bits) {
            if (place >= 0 && place < row.length) {
                row[place] = (byte) bits;
            }
        }

        /** What stands from a place on is free again. */
        void cut(int place) {
            top = place;
        }

        /** A copy of n bytes behind all others. */
        void append(int start, int n) {
            for (int i = 0; i < n; i++) {
                put(top + i, at(start + i));
            }
            top += Math.max(0, n);
        }

        int end() {
            return top;
        }

        /** Below 0 if the bytes at a come before those at b, 0 if they are equal, else above 0. */
        int compare(int a, int lengthA, int b, int lengthB) {
            int shared = Math.min(lengthA, lengthB);
            for (int i = 0; i < shared; i++) {
                int difference = at(a + i) - at(b + i);
                if (difference != 0) {
                    return difference;
                }
            }
            return lengthA - lengthB;
        }
    }

    /**
     * DATA, each NODE followed by all that is within it: so DATA are a stretch that begins with
     * the root, and what is within them are stretches inside that one.
     */
    private static final class DataRow {
        static final int EMPTY = 0;

        private final int[] forms = new int[DATA_ROOM];
        private final int[] counts = new int[DATA_ROOM];
        // The value of an INTEGER, the number of a CONSTRUCTOR, where BYTES start.
        private final long[] numbers = new long[DATA_ROOM];
        private final int[] nodes = new int[DATA_ROOM];
        private final int[] depths = new int[DATA_ROOM];
        // All the bytes within, for the SIZE.
        private final int[] weights = new int[DATA_ROOM];
        private int top = 0;

        DataRow() {
            forget();
        }

        void forget() {
            top = EMPTY;
            leaf(FORM_LIST, 0, 0);
        }

        int formOf(int place) {
            return place >= 0 && place < top ? forms[place] : NONE;
        }

        /** How many bytes, DATA, pairs or fields. */
        int countOf(int place) {
            return place >= 0 && place < top ? counts[place] : NONE;
        }

        long numberOf(int place) {
            return place >= 0 && place < top ? numbers[place] : 0;
        }

        int nodesOf(int place) {
            return place >= 0 && place < top ? nodes[place] : 0;
        }

        int depthOf(int place) {
            return place >= 0 && place < top ? depths[place] : NONE;
        }

        int sizeOf(int place) {
            return place >= 0 && place < top ? nodes[place] + weights[place] / 8 : 0;
        }

        /** DATA without any within; NONE if there is no room. */
        int leaf(int form, long number, int count) {
            int root = top;
            if (root >= DATA_ROOM) {
                return NONE;
            }
            top++;
            forms[root] = form;
            numbers[root] = number;
            counts[root] = count;
            nodes[root] = 1;
            depths[root] = 1;
            weights[root] = form == FORM_BYTES ? count : 0;
            return root;
        }

        /** Other DATA with the same within it; NONE if there is no room. */
        int recast(int source, int form, long number, int count) {
            int root = top;
            if (!copy(source, nodesOf(source)) || root >= top) {
                return NONE;
            }
            forms[root] = form;
            numbers[root] = number;
            counts[root] = count;
            return root;
        }

        /** The LIST with some DATA ahead; NONE if it would be too large or deep. */
        int prepend(int first, int list) {
            if (nodesOf(first) + nodesOf(list) > MOST_NODES || depthOf(first) >= MOST_DEPTH) {
                return NONE;
            }
            int root = leaf(FORM_LIST, 0, countOf(list) + 1);
            boolean whole = copy(first, nodesOf(first)) && copy(list + 1, nodesOf(list) - 1);
            return whole ? sealed(root) : NONE;
        }

        /** The LIST without its first; NONE if it is EMPTY. */
        int rest(int list) {
            if (countOf(list) < 1) {
                return NONE;
            }
            int first = nodesOf(list + 1);
            int root = leaf(FORM_LIST, 0, countOf(list) - 1);
            return copy(list + 1 + first, nodesOf(list) - 1 - first) ? sealed(root) : NONE;
        }

        private boolean copy(int from, int n) {
            if (from < 0 || n < 0 || from + n > top || top + n > DATA_ROOM) {
                return false;
            }
            System.arraycopy(forms, from, forms, top, n);
            System.arraycopy(counts, from, counts, top, n);
            System.arraycopy(numbers, from, numbers, top, n);
            System.arraycopy(nodes, from, nodes, top, n);
            System.arraycopy(depths, from, depths, top, n);
            System.arraycopy(weights, from, weights, top, n);
            top += n;
            return true;
        }

        /** The root of a new LIST, once all that is within it stands behind it. */
        private int sealed(int root) {
            if (root < 0 || root >= top) {
                return NONE;
            }
            int depth = 0;
            int weight = 0;
            int part = root + 1;
            for (int i = 0; i < counts[root] && part < top; i++) {
                depth = Math.max(depth, depths[part]);
                weight += weights[part];
                part += nodes[part];
            }
            nodes[root] = top - root;
            depths[root] = depth + 1;
            weights[root] = weight;
            return root;
        }
    }

    /**
     * The VALUES of a run. The first MOST_NODES places are for the constants of the TERM, each at
     * the place of its NODE, so that a constant is not made again whenever it is EVALUATED; they
     * are copies, so that a result outlives its TERM.
     */
    private static final class Values {
        final ByteRow bytes = new ByteRow(BYTES_ROOM);
        final DataRow data = new DataRow();
        private final int[] kinds = new int[VALUES_ROOM];
        private final long[] numbers = new long[VALUES_ROOM];
        private final int[] parts = new int[VALUES_ROOM];
        private final int[] links = new int[VALUES_ROOM];
        private int top = MOST_NODES;

        void forget() {
            top = MOST_NODES;
            bytes.cut(CONSTANT_BYTES);
            data.forget();
        }

        void takeConstants(Terms terms) {
            int last = terms.last();
            for (int node = terms.firstOf(last); node <= last; node++) {
                takeConstant(terms, node);
            }
        }

        int ofInteger(long number) {
            return make(INTEGER, number, NONE, NONE);
        }

        int ofTruth(boolean so) {
            return make(TRUTH, so ? 1 : 0, NONE, NONE);
        }

        int ofBytes(int start, int length) {
            return make(BYTES, 0, start, length);
        }

        int ofData(int root) {
            return root == NONE ? NONE : make(DATA, 0, root, NONE);
        }

        /** A FUNCTION or DELAYED. */
        int ofBody(int kind, int body, int scope) {
            return make(kind, 0, body, scope);
        }

        /** A BUILTIN that has been applied to an argument more than another; both may be NONE. */
        int ofBuiltin(long builtin, int argument, int before) {
            return make(BUILTIN, builtin, argument, before);
        }

        int kindOf(int value) {
            return value >= 0 && value < top ? kinds[value] : NONE;
        }

        /** Of an INTEGER, a TRUTH or a BUILTIN. */
        long numberOf(int value) {
            return value >= 0 && value < top ? numbers[value] : 0;
        }

        int startOf(int value) {
            return partOf(value);
        }

        int lengthOf(int value) {
            return linkOf(value);
        }

        int rootOf(int value) {
            return partOf(value);
        }

        int bodyOf(int value) {
            return partOf(value);
        }

        int scopeOf(int value) {
            return linkOf(value);
        }

        int argumentOf(int value) {
            return partOf(value);
        }

        int beforeOf(int value) {
            return linkOf(value);
        }

        /** How many VALUES a BUILTIN has been applied to. */
        int givenTo(int value) {
            int given = 0;
            int at = value;
            while (given < MOST_ARGUMENTS && linkOf(at) != NONE) {
                given++;
                at = linkOf(at);
            }
            return given;
        }

        int sizeOf(int value) {
            switch (kindOf(value)) {
                case BYTES:
                    return 1 + lengthOf(value) / 8;
                case DATA:
                    return data.sizeOf(rootOf(value));
                default:
                    return 1;
            }
        }

        long asNumber(int value) {
            switch (kindOf(value)) {
                case INTEGER:
                case TRUTH:
                case BUILTIN:
                    return numberOf(value);
                case BYTES:
                    return lengthOf(value);
                case DATA:
                    return data.nodesOf(rootOf(value));
                default:
                    return 0;
            }
        }

        private int partOf(int value) {
            return value >= 0 && value < top ? parts[value] : NONE;
        }

        private int linkOf(int value) {
            return value >= 0 && value < top ? links[value] : NONE;
        }

        private int make(int kind, long number, int part, int link) {
            if (top >= VALUES_ROOM) {
                return NONE;
            }
            int value = top;
            top++;
            set(value, kind, number, part, link);
            return value;
        }

        private void set(int value, int kind, long number, int part, int link) {
            if (value >= 0 && value < top) {
                kinds[value] = kind;
                numbers[value] = number;
                parts[value] = part;
                links[value] = link;
            }
        }

        private void takeConstant(Terms terms, int node) {
            switch (terms.kindOf(node)) {
                case NODE_INTEGER:
                    set(node, INTEGER, terms.argOf(node), NONE, NONE);
                    break;
                case NODE_BYTES:
                    takeBytes(terms, node);
                    break;
                case NODE_TRUTH:
                    set(node, TRUTH, terms.argOf(node), NONE, NONE);
                    break;
                case NODE_UNIT:
                    set(node, UNIT, 0, NONE, NONE);
                    break;
                case NODE_EMPTY:
                    set(node, DATA, 0, DataRow.EMPTY, NONE);
                    break;
                default:
                    break;
            }
        }

        private void takeBytes(Terms terms, int node) {
            int start = node * MOST_BYTES;
            int length = (int) terms.argOf(node);
            for (int i = 0; i < length; i++) {
                bytes.put(start + i, terms.textAt(node, i));
            }
            set(node, BYTES, 0, start, length);
        }
    }

    /** What a run has cost, what it may cost, and why it failed. */
    private static final class Meter {
        private int steps = 0;
        private int memory = 0;
        private int mostSteps = 0;
        private int mostMemory = 0;
        private int fault = 0;

        void start(int stepBudget, int memoryBudget) {
            steps = 0;
            memory = 0;
            mostSteps = stepBudget;
            mostMemory = memoryBudget;
            fault = 0;
        }

        int steps() {
            return steps;
        }

        int memory() {
            return memory;
        }

        /** 0 as long as nothing has failed. */
        int fault() {
            return fault;
        }

        void fail(int why) {
            if (fault == 0) {
                fault = why;
            }
        }

        boolean paySteps(int n) {
            if (n > mostSteps - steps) {
                fail(FAIL_STEPS);
                return false;
            }
            steps += n;
            return true;
        }

        boolean payMemory(int n) {
            if (n > mostMemory - memory) {
                fail(FAIL_MEMORY);
                return false;
            }
            memory += n;
            return true;
        }
    }

    /** The APPLYS and FORCES that are WAITING, and for an APPLY its function once that is there. */
    private static final class Waiting {
        private final int[] nodes = new int[MOST_WAITING];
        private final int[] scopes = new int[MOST_WAITING];
        private final int[] functions = new int[MOST_WAITING];
        private int depth = 0;
        private int most = 0;

        void forget() {
            depth = 0;
            most = 0;
        }

        int most() {
            return most;
        }

        boolean isEmpty() {
            return depth == 0;
        }

        /** False if there would be too many. */
        boolean push(int node, int scope) {
            if (depth >= MOST_WAITING) {
                return false;
            }
            nodes[depth] = node;
            scopes[depth] = scope;
            functions[depth] = NONE;
            depth++;
            most = Math.max(most, depth);
            return true;
        }

        void pop() {
            depth = Math.max(0, depth - 1);
        }

        int lastNode() {
            return has(depth - 1) ? nodes[depth - 1] : NONE;
        }

        int lastScope() {
            return has(depth - 1) ? scopes[depth - 1] : NONE;
        }

        int lastFunction() {
            return has(depth - 1) ? functions[depth - 1] : NONE;
        }

        void setLastFunction(int value) {
            if (has(depth - 1)) {
                functions[depth - 1] = value;
            }
        }

        private boolean has(int place) {
            return place >= 0 && place < MOST_WAITING;
        }
    }

    /** What VARIABLES stand for: a scope is a VALUE and the scope around it, NONE the outermost. */
    private static final class Scopes {
        private final int[] bound = new int[MOST_MEMORY];
        private final int[] outer = new int[MOST_MEMORY];
        private int top = 0;

        void forget() {
            top = 0;
        }

        int bind(int value, int around) {
            if (top >= MOST_MEMORY) {
                return NONE;
            }
            bound[top] = value;
            outer[top] = around;
            top++;
            return top - 1;
        }

        /** The VALUE of VARIABLE i, the innermost being the first. */
        int find(int scope, long i) {
            int at = scope;
            for (long left = i; left > 1 && has(at); left--) {
                at = outer[at];
            }
            return has(at) ? bound[at] : NONE;
        }

        private boolean has(int scope) {
            return scope >= 0 && scope < top;
        }
    }

    /** The built-in operations, and what it costs to have them DONE. */
    private static final class Builtins {
        static final int COUNT = 32;

        private static final int SUM = 0;
        private static final int DIFFERENCE = 1;
        private static final int PRODUCT = 2;
        private static final int QUOTIENT_DOWN = 3;
        private static final int REMAINDER_DOWN = 4;
        private static final int QUOTIENT_TO_ZERO = 5;
        private static final int REMAINDER_TO_ZERO = 6;
        private static final int EQUAL = 7;
        private static final int LESS = 8;
        private static final int AT_MOST = 9;
        private static final int JOIN = 10;
        private static final int HOW_MANY = 11;
        private static final int BYTE = 12;
        private static final int SLICE = 13;
        private static final int BYTES_EQUAL = 14;
        private static final int BYTES_LESS = 15;
        private static final int CHOOSE = 16;
        private static final int DATA_EQUAL = 17;
        private static final int FORM = 18;
        private static final int CONSTRUCTOR_NUMBER = 19;
        private static final int CONSTRUCTOR_FIELDS = 20;
        private static final int TO_CONSTRUCTOR = 21;
        private static final int INTEGER_TO_DATA = 22;
        private static final int BYTES_TO_DATA = 23;
        private static final int DATA_TO_INTEGER = 24;
        private static final int DATA_TO_BYTES = 25;
        private static final int FIRST = 26;
        private static final int REST = 27;
        private static final int PREPEND = 28;
        private static final int IS_EMPTY = 29;
        private static final int TO_MAP = 30;
        private static final int MAP_TO_LIST = 31;

        // What a BUILTIN takes is a kind of VALUES, any of them, or DATA of one form.
        private static final int ANY = 8;
        private static final int DATA_OF_FORM = 9;
        private static final int DATA_CONSTRUCTOR = DATA_OF_FORM + FORM_CONSTRUCTOR;
        private static final int DATA_MAP = DATA_OF_FORM + FORM_MAP;
        private static final int DATA_LIST = DATA_OF_FORM + FORM_LIST;
        private static final int DATA_INTEGER = DATA_OF_FORM + FORM_INTEGER;
        private static final int DATA_BYTES = DATA_OF_FORM + FORM_BYTES;

        // A table, not texts: a text might be made anew whenever a BUILTIN is looked up.
        private static final int[] TAKES = {
            INTEGER, INTEGER, NONE, // SUM
            INTEGER, INTEGER, NONE, // DIFFERENCE
            INTEGER, INTEGER, NONE, // PRODUCT
            INTEGER, INTEGER, NONE, // QUOTIENT_DOWN
            INTEGER, INTEGER, NONE, // REMAINDER_DOWN
            INTEGER, INTEGER, NONE, // QUOTIENT_TO_ZERO
            INTEGER, INTEGER, NONE, // REMAINDER_TO_ZERO
            INTEGER, INTEGER, NONE, // EQUAL
            INTEGER, INTEGER, NONE, // LESS
            INTEGER, INTEGER, NONE, // AT_MOST
            BYTES, BYTES, NONE, // JOIN
            BYTES, NONE, NONE, // HOW_MANY
            BYTES, INTEGER, NONE, // BYTE
            INTEGER, INTEGER, BYTES, // SLICE
            BYTES, BYTES, NONE, // BYTES_EQUAL
            BYTES, BYTES, NONE, // BYTES_LESS
            TRUTH, ANY, ANY, // CHOOSE
            DATA, DATA, NONE, // DATA_EQUAL
            DATA, NONE, NONE, // FORM
            DATA_CONSTRUCTOR, NONE, NONE, // CONSTRUCTOR_NUMBER
            DATA_CONSTRUCTOR, NONE, NONE, // CONSTRUCTOR_FIELDS
            INTEGER, DATA_LIST, NONE, // TO_CONSTRUCTOR
            INTEGER, NONE, NONE, // INTEGER_TO_DATA
            BYTES, NONE, NONE, // BYTES_TO_DATA
            DATA_INTEGER, NONE, NONE, // DATA_TO_INTEGER
            DATA_BYTES, NONE, NONE, // DATA_TO_BYTES
            DATA_LIST, NONE, NONE, // FIRST
            DATA_LIST, NONE, NONE, // REST
            DATA, DATA_LIST, NONE, // PREPEND
            DATA_LIST, NONE, NONE, // IS_EMPTY
            DATA_LIST, NONE, NONE, // TO_MAP
            DATA_MAP, NONE, NONE, // MAP_TO_LIST
        };

        private final Values values;
        private final Meter meter;
        private final int[] given = new int[MOST_ARGUMENTS];
        private int ready = NONE;

        Builtins(Values values, Meter meter) {
            this.values = values;
            this.meter = meter;
        }

        /** What a BUILTIN takes behind i other VALUES; NONE if it takes no more. */
        private static int takes(int builtin, int i) {
            int place = builtin * MOST_ARGUMENTS + i;
            boolean known = builtin >= 0 && builtin < COUNT && i >= 0 && i < MOST_ARGUMENTS;
            return known && place < TAKES.length ? TAKES[place] : NONE;
        }

        void forget() {
            ready = NONE;
        }

        /** Whether a BUILTIN has all its VALUES and is to be DONE. */
        boolean isReady() {
            return ready != NONE;
        }

        /** The BUILTIN with one VALUE more; NONE if it fails, or if it is ready then. */
        int take(int function, int argument) {
            int builtin = (int) values.numberOf(function);
            int before = values.givenTo(function);
            if (takes(builtin, before + 1) != NONE) {
                return meter.payMemory(1) ? values.ofBuiltin(builtin, argument, function) : NONE;
            }
            gather(function, argument, before);
            ready = builtin;
            return NONE;
        }

        /** What the BUILTIN that is ready comes to; NONE if it fails. */
        int perform() {
            int builtin = ready;
            ready = NONE;
            if (!meter.paySteps(1 + sizeOfGiven(builtin))) {
                return NONE;
            }
            if (!allFit(builtin)) {
                meter.fail(FAIL_KIND);
                return NONE;
            }
            int result;
            if (builtin <= AT_MOST) {
                result = onIntegers(builtin, values.numberOf(given[0]), values.numberOf(given[1]));
            } else if (builtin <= BYTES_LESS) {
                result = onBytes(builtin);
            } else if (builtin == CHOOSE) {
                result = values.numberOf(given[0]) == 1 ? given[1] : given[2];
            } else if (builtin <= DATA_TO_BYTES) {
                result = onData(builtin);
            } else {
                result = onLists(builtin);
            }
            if (result == NONE) {
                meter.fail(FAIL_NO_RESULT);
                return NONE;
            }
            return meter.payMemory(values.sizeOf(result)) ? result : NONE;
        }

        /** The VALUES of a BUILTIN hang on one another, the latest first. */
        private void gather(int function, int argument, int before) {
            int value = argument;
            int rest = function;
            for (int i = Math.min(before, MOST_ARGUMENTS - 1); i >= 0; i--) {
                given[i] = value;
                value = values.argumentOf(rest);
                rest = values.beforeOf(rest);
            }
        }

        private int sizeOfGiven(int builtin) {
            int size = 0;
            for (int i = 0; i < MOST_ARGUMENTS && takes(builtin, i) != NONE; i++) {
                size += values.sizeOf(given[i]);
            }
            return size;
        }

        private boolean allFit(int builtin) {
            for (int i = 0; i < MOST_ARGUMENTS && takes(builtin, i) != NONE; i++) {
                if (!fits(takes(builtin, i), given[i])) {
                    return false;
                }
            }
            return true;
        }

        private boolean fits(int taken, int value) {
            int kind = values.kindOf(value);
            if (taken < DATA_OF_FORM) {
                return taken == ANY || taken == kind;
            }
            int form = values.data.formOf(values.rootOf(value));
            return kind == DATA && form == taken - DATA_OF_FORM;
        }

        // Each of these answers the result, or NONE if there is no such result.

        private int onIntegers(int builtin, long x, long y) {
            switch (builtin) {
                case SUM:
                    return sumFits(x, y) ? values.ofInteger(x + y) : NONE;
                case DIFFERENCE:
                    return differenceFits(x, y) ? values.ofInteger(x - y) : NONE;
                case PRODUCT:
                    return productFits(x, y) ? values.ofInteger(x * y) : NONE;
                case QUOTIENT_DOWN:
                    return quotientFits(x, y) ? values.ofInteger(Math.floorDiv(x, y)) : NONE;
                case REMAINDER_DOWN:
                    return y != 0 ? values.ofInteger(Math.floorMod(x, y)) : NONE;
                case QUOTIENT_TO_ZERO:
                    return quotientFits(x, y) ? values.ofInteger(x / y) : NONE;
                case REMAINDER_TO_ZERO:
                    return y != 0 ? values.ofInteger(x % y) : NONE;
                case EQUAL:
                    return values.ofTruth(x == y);
                case LESS:
                    return values.ofTruth(x < y);
                default:
                    return values.ofTruth(x <= y);
            }
        }

        private static boolean sumFits(long x, long y) {
            return y >= 0 ? x <= Long.MAX_VALUE - y : x >= Long.MIN_VALUE - y;
        }

        private static boolean differenceFits(long x, long y) {
            return y >= 0 ? x >= Long.MIN_VALUE + y : x <= Long.MAX_VALUE + y;
        }

        private static boolean productFits(long x, long y) {
            if (y == 0) {
                return true;
            }
            // Dividing back by -1 would wrap around as the product did.
            return y == -1 ? x != Long.MIN_VALUE : x * y / y == x;
        }

        private static boolean quotientFits(long x, long y) {
            return y != 0 && (y != -1 || x != Long.MIN_VALUE);
        }

        private int onBytes(int builtin) {
            switch (builtin) {
                case JOIN:
                    return join(given[0], given[1]);
                case HOW_MANY:
                    return values.ofInteger(values.lengthOf(given[0]));
                case BYTE:
                    return byteOf(given[0], values.numberOf(given[1]));
                case SLICE:
                    return slice(values.numberOf(given[0]), values.numberOf(given[1]), given[2]);
                case BYTES_EQUAL:
                    return values.ofTruth(compareBytes(given[0], given[1]) == 0);
                default:
                    return values.ofTruth(compareBytes(given[0], given[1]) < 0);
            }
        }

        private int join(int a, int b) {
            int length = values.lengthOf(a) + values.lengthOf(b);
            if (length > MOST_BYTES) {
                return NONE;
            }
            int start = values.bytes.end();
            values.bytes.append(values.startOf(a), values.lengthOf(a));
            values.bytes.append(values.startOf(b), values.lengthOf(b));
            return values.ofBytes(start, length);
        }

        private int byteOf(int value, long i) {
            if (i < 0 || i >= values.lengthOf(value)) {
                return NONE;
            }
            return values.ofInteger(values.bytes.at(values.startOf(value) + (int) i));
        }

        /** Nothing is copied: no byte that has been written changes within a run. */
        private int slice(long place, long many, int value) {
            long from = Math.min(Math.max(0, place), values.lengthOf(value));
            long length = Math.min(Math.max(0, many), values.lengthOf(value) - from);
            return values.ofBytes(values.startOf(value) + (int) from, (int) length);
        }

        private int compareBytes(int a, int b) {
            return values.bytes.compare(
                    values.startOf(a), values.lengthOf(a), values.startOf(b), values.lengthOf(b));
        }

        private int onData(int builtin) {
            DataRow data = values.data;
            int root = values.rootOf(given[0]);
            switch (builtin) {
                case DATA_EQUAL:
                    return values.ofTruth(sameData(root, values.rootOf(given[1])));
                case FORM:
                    return values.ofInteger(data.formOf(root));
                case CONSTRUCTOR_NUMBER:
                case DATA_TO_INTEGER:
                    return values.ofInteger(data.numberOf(root));
                case CONSTRUCTOR_FIELDS:
                    return values.ofData(data.recast(root, FORM_LIST, 0, data.countOf(root)));
                case TO_CONSTRUCTOR:
                    return toConstructor(values.numberOf(given[0]), values.rootOf(given[1]));
                case INTEGER_TO_DATA:
                    return values.ofData(data.leaf(FORM_INTEGER, values.numberOf(given[0]), 0));
                case BYTES_TO_DATA:
                    return values.ofData(data.leaf(
                            FORM_BYTES, values.startOf(given[0]), values.lengthOf(given[0])));
                case DATA_TO_BYTES:
                    return values.ofBytes((int) data.numberOf(root), data.countOf(root));
                default:
                    return NONE;
            }
        }

        private int toConstructor(long number, int list) {
            if (number < 0 || number > MOST_CONSTRUCTOR) {
                return NONE;
            }
            DataRow data = values.data;
            return values.ofData(data.recast(list, FORM_CONSTRUCTOR, number, data.countOf(list)));
        }

        private int onLists(int builtin) {
            DataRow data = values.data;
            int root = values.rootOf(given[0]);
            int count = data.countOf(root);
            switch (builtin) {
                case FIRST:
                    return count > 0 ? values.ofData(root + 1) : NONE;
                case REST:
                    return values.ofData(data.rest(root));
                case PREPEND:
                    return values.ofData(data.prepend(root, values.rootOf(given[1])));
                case IS_EMPTY:
                    return values.ofTruth(count == 0);
                case TO_MAP:
                    return count % 2 == 0
                            ? values.ofData(data.recast(root, FORM_MAP, 0, count / 2)) : NONE;
                case MAP_TO_LIST:
                    return values.ofData(data.recast(root, FORM_LIST, 0, count * 2));
                default:
                    return NONE;
            }
        }

        /** As each NODE tells how much is within it, equal NODES in turn are equal DATA. */
        private boolean sameData(int a, int b) {
            int nodes = values.data.nodesOf(a);
            if (nodes != values.data.nodesOf(b)) {
                return false;
            }
            for (int i = 0; i < nodes; i++) {
                if (!sameNode(a + i, b + i)) {
                    return false;
                }
            }
            return true;
        }

        private boolean sameNode(int a, int b) {
            DataRow data = values.data;
            int count = data.countOf(a);
            if (data.formOf(a) != data.formOf(b) || count != data.countOf(b)) {
                return false;
            }
            if (data.formOf(a) == FORM_BYTES) {
                int startA = (int) data.numberOf(a);
                int startB = (int) data.numberOf(b);
                return values.bytes.compare(startA, count, startB, count) == 0;
            }
            return data.numberOf(a) == data.numberOf(b);
        }
    }

    /**
     * EVALUATES a TERM without recursion: what would stand open is WAITING. There is a NODE to
     * EVALUATE in a scope, or a BUILTIN that is ready, or else a VALUE to go on with.
     */
    private static final class Evaluator {
        final Values values = new Values();
        final Meter meter = new Meter();
        final Waiting waiting = new Waiting();
        private final Scopes scopes = new Scopes();
        private final Builtins builtins = new Builtins(values, meter);
        private final Terms terms;
        private int node = NONE;
        private int scope = NONE;
        private int value = NONE;

        Evaluator(Terms terms) {
            this.terms = terms;
        }

        /** The VALUE that the latest run came to. */
        int outcome() {
            return value;
        }

        /** 0, or why it fails. */
        int evaluateLast(int steps, int memory) {
            meter.start(steps, memory);
            waiting.forget();
            scopes.forget();
            builtins.forget();
            values.forget();
            values.takeConstants(terms);
            value = NONE;
            evaluateIn(terms.last(), NONE);
            for (int turn = 0; turn < MOST_TURNS && goesOn(); turn++) {
                if (node != NONE) {
                    evaluateNode();
                } else if (builtins.isReady()) {
                    value = builtins.perform();
                } else {
                    goOn();
                }
            }
            return meter.fault();
        }

        private boolean goesOn() {
            boolean over = node == NONE && !builtins.isReady() && waiting.isEmpty();
            return meter.fault() == 0 && !over;
        }

        private void evaluateIn(int next, int around) {
            node = next;
            scope = around;
        }

        private void evaluateNode() {
            int here = node;
            node = NONE;
            if (!meter.paySteps(1)) {
                return;
            }
            switch (terms.kindOf(here)) {
                case NODE_VARIABLE:
                    value = scopes.find(scope, terms.argOf(here));
                    break;
                case NODE_LAMBDA:
                    hold(FUNCTION, here);
                    break;
                case NODE_DELAY:
                    hold(DELAYED, here);
                    break;
                case NODE_APPLY:
                    await(here, terms.functionOf(here));
                    break;
                case NODE_FORCE:
                    await(here, terms.lastPartOf(here));
                    break;
                case NODE_ERROR:
                    meter.fail(FAIL_ERROR);
                    break;
                case NODE_BUILTIN:
                    value = meter.payMemory(1)
                            ? values.ofBuiltin(terms.argOf(here), NONE, NONE) : NONE;
                    break;
                default:
                    // A constant is the VALUE at the place of its NODE.
                    value = here;
                    break;
            }
        }

        private void hold(int kind, int here) {
            value = meter.payMemory(1) ? values.ofBody(kind, terms.lastPartOf(here), scope) : NONE;
        }

        private void await(int here, int part) {
            if (waiting.push(here, scope)) {
                node = part;
            } else {
                meter.fail(FAIL_WAITING);
            }
        }

        /** What has been WAITING last goes on with the VALUE. */
        private void goOn() {
            int here = waiting.lastNode();
            int function = waiting.lastFunction();
            if (terms.kindOf(here) == NODE_FORCE) {
                waiting.pop();
                force();
            } else if (function == NONE) {
                waiting.setLastFunction(value);
                evaluateIn(terms.lastPartOf(here), waiting.lastScope());
            } else {
                waiting.pop();
                call(function);
            }
        }

        private void force() {
            if (values.kindOf(value) == DELAYED) {
                evaluateIn(values.bodyOf(value), values.scopeOf(value));
            } else {
                meter.fail(FAIL_KIND);
            }
        }

        private void call(int function) {
            int kind = values.kindOf(function);
            if (kind == BUILTIN) {
                value = builtins.take(function, value);
            } else if (kind != FUNCTION) {
                meter.fail(FAIL_KIND);
            } else if (meter.payMemory(1)) {
                int inner = scopes.bind(value, values.scopeOf(function));
                evaluateIn(values.bodyOf(function), inner);
            }
        }
    }
}
