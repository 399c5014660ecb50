/**
 * Arrays as a language of classes has them: expressions are told as NODES and worked; what they
 * note, make and change stays. The promises that it keeps stand in ../shared/DOC.md.
 */
public final class ArrayRules {
    public static final int NONE = -1, OUTSIDE = -2, ROOM = -3;

    // The kinds of VALUES, as run() and has() answer them. The number of a NULL is always NONE.
    private static final int NUMBER = 0, NULL = 1, THING = 2;

    private static final int WHAT_NODES = 0, WHAT_THINGS = 1, WHAT_ELEMENTS = 2;
    private static final int WHAT_TYPE = 0, WHAT_LENGTH = 1, WHAT_FILLED = 2;

    private final Nodes nodes;
    private final Store store;
    private final Variables variables;
    private final Trace trace;
    private final Worker worker;

    public ArrayRules() {
        nodes = new Nodes();
        store = new Store();
        variables = new Variables();
        trace = new Trace();
        worker = new Worker(nodes, store, variables, trace);
    }

    public int node(int code, int a, int b, int c, int d) {
        return nodes.tell(code, a, b, c, d);
    }

    public int clear() {
        return nodes.forgetAll();
    }

    public int run(int node) {
        return nodes.isNode(node) ? worker.start(node) : OUTSIDE;
    }

    public long value() {
        return worker.number;
    }

    public int where() {
        return worker.failedAt;
    }

    public int worked() {
        return worker.workedCount;
    }

    public int notes() {
        return trace.count;
    }

    public int note(int i) {
        return trace.isKept(i) ? trace.kept[i] : OUTSIDE;
    }

    public int has(int variable) {
        return Variables.isVariable(variable) ? variables.kinds[variable] : OUTSIDE;
    }

    public long get(int variable) {
        return Variables.isVariable(variable) ? variables.numbers[variable] : 0;
    }

    public int thing(int thing, int what) {
        if (!store.isThing(thing)) {
            return OUTSIDE;
        }
        switch (what) {
            case WHAT_TYPE:
                return store.types[thing];
            case WHAT_LENGTH:
                return store.lengths[thing];
            case WHAT_FILLED:
                return store.countThingsIn(thing);
            default:
                return OUTSIDE;
        }
    }

    public long element(int thing, int i) {
        return store.hasElement(thing, i) ? store.numberAt(thing, i) : 0;
    }

    public long bits(int thing, int i) {
        return store.hasElement(thing, i) ? store.bitsAt(thing, i) : 0;
    }

    public int sub(int type, int other) {
        if (!Types.isType(type) || !Types.isType(other)) {
            return OUTSIDE;
        }
        return Types.isUnder(type, other) ? 1 : 0;
    }

    public int told(int what) {
        switch (what) {
            case WHAT_NODES:
                return nodes.count;
            case WHAT_THINGS:
                return store.things;
            case WHAT_ELEMENTS:
                return store.elements;
            default:
                return OUTSIDE;
        }
    }

    /** The CODES of NODES. */
    private static final class Codes {
        static final int NUMBER = 0, NULL = 1, GET = 2, SET = 3, NOTE = 4, FAIL = 5, PLUS = 6;
        static final int OVER = 7, NEW = 8, MAKE = 9, LIST = 10, FILLED = 11, LENGTH = 12, AT = 13;
        static final int PUT = 14, ADD = 15, STEP = 16, COPY = 17, CAST = 18, IS = 19, SAME = 20;
        static final int EACH = 21, VARIED = 22, THEN = 23, IF = 24, CATCH = 25, MOVE = 26;
    }

    /** The numbers with which a NODE FAILS. */
    private static final class Fails {
        static final int ON_NULL = 1, NO_ELEMENT = 2, NOT_SUB = 3, SIZE_BELOW_0 = 4;
        static final int CAST = 5, NO_ROOM = 6, TOLD_TO = 7, OVER_0 = 8, WRONG_KIND = 9;
        static final int TOO_LONG = 10;
    }

    /** TYPES, and how numbers are CUT to the BASES that are numbers. */
    private static final class Types {
        static final int BOOLEAN = 0, BYTE = 1, CHAR = 2, SHORT = 3, INT = 4, FLOAT = 6, DOUBLE = 7;
        static final int OBJECT = 8, ROOT = 10, LEAF = 11;
        static final int DIM = 16, MOST_DIMS = 3;
        static final int FLOAT_PLACES = 23, FLOAT_BIAS = 127;
        static final int DOUBLE_PLACES = 52, DOUBLE_BIAS = 1023;

        static boolean isType(int type) {
            return type >= 0 && type < DIM * (MOST_DIMS + 1) && type % DIM <= LEAF;
        }

        static int dimsOf(int type) {
            return type / DIM;
        }

        static boolean isOfArrays(int type) {
            return isType(type) && type >= DIM;
        }

        static boolean isOfInstances(int type) {
            return type == OBJECT || type == ROOT || type == LEAF;
        }

        static boolean isOfNumbers(int type) {
            return type >= BOOLEAN && type <= DOUBLE;
        }

        static boolean isReal(int type) {
            return type == FLOAT || type == DOUBLE;
        }

        static boolean isUnder(int type, int other) {
            int shared = Math.min(type / DIM, other / DIM) * DIM;
            int left = type - shared;
            int right = other - shared;
            if (left == right) {
                return true;
            }
            if (right == OBJECT) {
                return left > OBJECT;
            }
            // Of the BASES behind OBJECT each is SUB to all that come ahead of it.
            return left < DIM && right > OBJECT && right < left;
        }

        static long cut(int base, long number) {
            switch (base) {
                case BOOLEAN:
                    return number != 0 ? 1 : 0;
                case BYTE:
                    return (byte) number;
                case CHAR:
                    return (char) number;
                case SHORT:
                    return (short) number;
                case INT:
                    return (int) number;
                case FLOAT:
                case DOUBLE:
                    return (long) toReal(base, number);
                default:
                    return number;
            }
        }

        /** A float stands in a double without loss; it must come straight from the long. */
        static double toReal(int base, long number) {
            if (base == FLOAT) {
                return (float) number;
            }
            return (double) number;
        }

        static double addReals(int base, double left, long right) {
            if (base == FLOAT) {
                return (float) left + (float) right;
            }
            return left + (double) right;
        }

        static long bitsOf(int base, double real) {
            if (base == FLOAT) {
                // The sign of 32 bits goes on to all 64.
                return (int) layOut(real, FLOAT_PLACES, FLOAT_BIAS, 1L << 31);
            }
            return layOut(real, DOUBLE_PLACES, DOUBLE_BIAS, 1L << 63);
        }

        /**
         * Numbers come in whole and are only added, so a real is 0 (never below it) or at least 1
         * far from it, and stays far below the greatest float.
         */
        private static long layOut(double real, int places, int bias, long sign) {
            if (real == 0) {
                return 0;
            }
            double rest = real < 0 ? 0 - real : real;
            int exponent = 0;
            for (; exponent < bias && rest >= 2; exponent++) {
                rest = rest / 2;
            }
            long fraction = (long) ((rest - 1) * (double) (1L << places));
            long laid = ((long) (exponent + bias) << places) | fraction;
            return real < 0 ? laid | sign : laid;
        }
    }

    /** The NODES that were told. */
    private static final class Nodes {
        static final int MOST = 80;
        private static final int[] NO_ITEMS = {};

        final int[] codes = new int[MOST];
        final int[] a = new int[MOST];
        final int[] b = new int[MOST];
        final int[] c = new int[MOST];
        final int[] d = new int[MOST];
        // LISTS share their beginnings, so each has a row of its own, in the order of working.
        private final int[][] items = new int[MOST][];
        int count;

        Nodes() {
            for (int i = 0; i < MOST; i++) {
                items[i] = NO_ITEMS;
            }
        }

        boolean isNode(int node) {
            return node >= 0 && node < count;
        }

        boolean isList(int node) {
            return isNode(node) && codes[node] == Codes.LIST;
        }

        int lengthOfList(int list) {
            return isList(list) ? items[list].length : 0;
        }

        int itemOf(int list, int i) {
            return i >= 0 && i < lengthOfList(list) ? items[list][i] : NONE;
        }

        int forgetAll() {
            int before = count;
            count = 0;
            return before;
        }

        int tell(int code, int first, int second, int third, int fourth) {
            if (!fits(code, first, second, third, fourth)) {
                return OUTSIDE;
            }
            if (count >= MOST) {
                return ROOM;
            }
            codes[count] = code;
            a[count] = first;
            b[count] = second;
            c[count] = third;
            d[count] = fourth;
            items[count] = code == Codes.LIST ? itemsWith(first, second) : NO_ITEMS;
            count++;
            return count - 1;
        }

        private int[] itemsWith(int list, int last) {
            int before = lengthOfList(list);
            int[] row = new int[before + 1];
            for (int i = 0; i < before; i++) {
                row[i] = itemOf(list, i);
            }
            row[before] = last;
            return row;
        }

        private boolean fits(int code, int first, int second, int third, int fourth) {
            switch (code) {
                case Codes.NUMBER:
                case Codes.NULL:
                case Codes.FAIL:
                    return true;
                case Codes.GET:
                    return Variables.isVariable(first);
                case Codes.SET:
                    return Variables.isVariable(first) && isNode(second);
                case Codes.NOTE:
                    return isNode(second);
                case Codes.NEW:
                    return Types.isOfInstances(first);
                case Codes.MAKE:
                    return fitsMake(first, countSizes(second, third, fourth));
                case Codes.LIST:
                    return isListOrNone(first) && isNode(second);
                case Codes.FILLED:
                case Codes.VARIED:
                    return Types.isOfArrays(first) && isListOrNone(second);
                case Codes.CAST:
                    return Types.isType(first) && isNode(second);
                case Codes.IS:
                    return Types.isType(first) && !Types.isOfNumbers(first) && isNode(second);
                default:
                    return fitsFromNode(code, first, second, third, fourth);
            }
        }

        /** The CODES whose part a is a NODE. */
        private boolean fitsFromNode(int code, int first, int second, int third, int fourth) {
            switch (code) {
                case Codes.LENGTH:
                case Codes.COPY:
                    return isNode(first);
                case Codes.PLUS:
                case Codes.OVER:
                case Codes.AT:
                case Codes.STEP:
                case Codes.SAME:
                case Codes.THEN:
                    return isNode(first) && isNode(second);
                case Codes.PUT:
                case Codes.ADD:
                case Codes.IF:
                    return isNode(first) && isNode(second) && isNode(third);
                case Codes.EACH:
                    return isNode(first) && Variables.isVariable(second) && isNode(third);
                case Codes.CATCH:
                    return isNode(first) && isNode(second) && Variables.isVariable(third);
                case Codes.MOVE:
                    return isNode(first) && isNode(second) && isNode(third)
                            && lengthOfList(fourth) == 2;
                default:
                    return false;
            }
        }

        private boolean isListOrNone(int part) {
            return part == NONE || isList(part);
        }

        private static boolean fitsMake(int type, int sizes) {
            return Types.isType(type) && sizes >= 1 && sizes <= Types.dimsOf(type);
        }

        /** How many sizes there are; 0, if they are not told as MAKE has them. */
        private int countSizes(int first, int second, int third) {
            if (!isNode(first)) {
                return 0;
            }
            if (second == NONE) {
                return third == NONE ? 1 : 0;
            }
            if (!isNode(second)) {
                return 0;
            }
            if (third == NONE) {
                return 2;
            }
            return isNode(third) ? 3 : 0;
        }
    }

    /** The THINGS and their ELEMENTS. They stay, so each has its place in the rows for good. */
    private static final class Store {
        static final int MOST_THINGS = 400, MOST_ELEMENTS = 4000;

        final int[] types = new int[MOST_THINGS];
        final int[] lengths = new int[MOST_THINGS];
        private final int[] starts = new int[MOST_THINGS];
        // ELEMENTS that are floats or doubles stand in reals, all others in cells.
        private final long[] cells = new long[MOST_ELEMENTS];
        private final double[] reals = new double[MOST_ELEMENTS];
        int things;
        int elements;

        boolean isThing(int thing) {
            return thing >= 0 && thing < things;
        }

        boolean isArray(int thing) {
            return isThing(thing) && lengths[thing] != NONE;
        }

        boolean hasElement(int array, int i) {
            return isThing(array) && i >= 0 && i < lengths[array];
        }

        boolean hasSpan(int array, int from, int span) {
            return isArray(array) && from >= 0 && span >= 0 && (long) from + span <= lengths[array];
        }

        int elementTypeOf(int array) {
            return types[array] - Types.DIM;
        }

        boolean isUnder(int thing, int type) {
            return isThing(thing) && Types.isUnder(types[thing], type);
        }

        boolean hasRoom(long moreThings, long moreElements) {
            return things + moreThings <= MOST_THINGS && elements + moreElements <= MOST_ELEMENTS;
        }

        /** Sizes that are not told are NONE. The early answers keep the products within a long. */
        boolean hasRoomForSizes(int first, int second, int third) {
            if (first > MOST_ELEMENTS || second == NONE) {
                return hasRoom(1, first);
            }
            long inner = (long) first * second;
            if (inner > MOST_ELEMENTS || third == NONE) {
                return hasRoom(1 + first, first + inner);
            }
            return hasRoom(1 + first + inner, first + inner + inner * third);
        }

        /** A new INSTANCE; NONE, if there is no room. */
        int addInstance(int type) {
            return addThing(type, NONE, 0);
        }

        /** A new ARRAY with ELEMENTS as they are at first; NONE, if there is no room. */
        int addArray(int type, int length) {
            int made = addThing(type, length, length);
            if (made != NONE && !Types.isOfNumbers(type - Types.DIM)) {
                for (int i = 0; i < length; i++) {
                    cells[starts[made] + i] = NONE;
                }
            }
            return made;
        }

        private int addThing(int type, int length, int moreElements) {
            if (!hasRoom(1, moreElements)) {
                return NONE;
            }
            int made = things;
            types[made] = type;
            lengths[made] = length;
            starts[made] = elements;
            things++;
            elements += moreElements;
            return made;
        }

        /** Sizes that are not told are NONE; NONE, if there is no room for all. */
        int addArrays(int type, int first, int second, int third) {
            if (!hasRoomForSizes(first, second, third)) {
                return NONE;
            }
            int made = addArray(type, first);
            for (int i = 0; second != NONE && i < first; i++) {
                int row = addArray(type - Types.DIM, second);
                cells[starts[made] + i] = row;
                for (int j = 0; third != NONE && j < second; j++) {
                    cells[starts[row] + j] = addArray(type - 2 * Types.DIM, third);
                }
            }
            return made;
        }

        int addCopy(int array) {
            int made = addArray(types[array], lengths[array]);
            if (made != NONE) {
                moveSpan(starts[array], starts[made], lengths[array]);
            }
            return made;
        }

        int countThingsIn(int thing) {
            if (!isArray(thing) || Types.isOfNumbers(elementTypeOf(thing))) {
                return 0;
            }
            int count = 0;
            for (int i = 0; i < lengths[thing]; i++) {
                if (cells[starts[thing] + i] != NONE) {
                    count++;
                }
            }
            return count;
        }

        int kindAt(int array, int i) {
            if (Types.isOfNumbers(elementTypeOf(array))) {
                return NUMBER;
            }
            return cells[starts[array] + i] == NONE ? NULL : THING;
        }

        long numberAt(int array, int i) {
            int place = starts[array] + i;
            return Types.isReal(elementTypeOf(array)) ? (long) reals[place] : cells[place];
        }

        double realAt(int array, int i) {
            return reals[starts[array] + i];
        }

        long bitsAt(int array, int i) {
            int type = elementTypeOf(array);
            return Types.isReal(type) ? Types.bitsOf(type, realAt(array, i)) : numberAt(array, i);
        }

        void putNumber(int array, int i, long number) {
            int type = elementTypeOf(array);
            if (Types.isReal(type)) {
                reals[starts[array] + i] = Types.toReal(type, number);
            } else {
                cells[starts[array] + i] = Types.cut(type, number);
            }
        }

        void putReference(int array, int i, long thing) {
            cells[starts[array] + i] = thing;
        }

        /** An ELEMENT that is a real is wider than its VALUE, so what it was is told as real too. */
        void putSum(int array, int i, long before, double realBefore, long added) {
            int type = elementTypeOf(array);
            if (Types.isReal(type)) {
                reals[starts[array] + i] = Types.addReals(type, realBefore, added);
            } else {
                cells[starts[array] + i] = Types.cut(type, before + added);
            }
        }

        /** Numbers come only to numbers of their own BASE, references to any references. */
        boolean mayMove(int from, int to) {
            int left = elementTypeOf(from);
            int right = elementTypeOf(to);
            return left == right || !Types.isOfNumbers(left) && !Types.isOfNumbers(right);
        }

        /** False, if it stops at a THING that may not stand there. */
        boolean move(int from, int i, int to, int j, int span) {
            int type = elementTypeOf(to);
            int source = starts[from] + i;
            int goal = starts[to] + j;
            // What stands in an ARRAY may stand elsewhere in it: only then can both spans meet.
            if (from == to || Types.isOfNumbers(type)) {
                moveSpan(source, goal, span);
                return true;
            }
            for (int k = 0; k < span; k++) {
                long moved = cells[source + k];
                if (moved != NONE && !isUnder((int) moved, type)) {
                    return false;
                }
                cells[goal + k] = moved;
            }
            return true;
        }

        private void moveSpan(int source, int goal, int span) {
            System.arraycopy(cells, source, cells, goal, span);
            System.arraycopy(reals, source, reals, goal, span);
        }
    }

    /** The VARIABLES and their VALUES. */
    private static final class Variables {
        static final int COUNT = 8;

        final int[] kinds = new int[COUNT];
        final long[] numbers = new long[COUNT];

        static boolean isVariable(int variable) {
            return variable >= 0 && variable < COUNT;
        }

        void set(int variable, int kind, long number) {
            kinds[variable] = kind;
            numbers[variable] = number;
        }
    }

    /** What was noted in the latest run. */
    private static final class Trace {
        static final int MOST_KEPT = 256;

        final int[] kept = new int[MOST_KEPT];
        int count;

        boolean isKept(int i) {
            return i >= 0 && i < count && i < MOST_KEPT;
        }

        void add(int noted) {
            if (count < MOST_KEPT) {
                kept[count] = noted;
            }
            count++;
        }
    }

    /** VALUES of NODES of LISTS that VARIED has worked, while it works those behind them. */
    private static final class Held {
        // A VARIED holds fewer VALUES than the number of the LIST at which it is, and one that is
        // open within it is at a LIST whose number is lower by 2 at least: 78 + 76 + .. + 2.
        static final int MOST = 1560;

        private final byte[] kinds = new byte[MOST];
        private final long[] numbers = new long[MOST];
        int count;

        int kindOf(int i) {
            return i >= 0 && i < MOST ? kinds[i] : NULL;
        }

        long numberOf(int i) {
            return i >= 0 && i < MOST ? numbers[i] : NONE;
        }

        void add(int kind, long number) {
            if (count < MOST) {
                kinds[count] = (byte) kind;
                numbers[count] = number;
                count++;
            }
        }
    }

    /**
     * Works NODES. Each method that does answers whether there is a VALUE, which then is in kind
     * and number; if not, failed and failedAt tell how and where it FAILED.
     */
    private static final class Worker {
        static final int MOST_WORKED = 3000, MOST_TAKEN = 40;

        private final Nodes nodes;
        private final Store store;
        private final Variables variables;
        private final Trace trace;
        private final Held held = new Held();
        private int kind = NUMBER;
        long number;
        private int failed;
        int failedAt = NONE;
        int workedCount;
        private int takenCount;

        Worker(Nodes nodes, Store store, Variables variables, Trace trace) {
            this.nodes = nodes;
            this.store = store;
            this.variables = variables;
            this.trace = trace;
        }

        int start(int node) {
            trace.count = 0;
            held.count = 0;
            workedCount = 0;
            takenCount = 0;
            failedAt = NONE;
            if (work(node, nodes.count)) {
                return kind;
            }
            comeToNumber(0);
            return -10 - failed;
        }

        /** A part has a lesser number than its whole: so it goes 80 levels deep at most. */
        private boolean work(int node, int whole) {
            if (node < 0 || node >= whole) {
                return fail(Fails.WRONG_KIND, whole);
            }
            int code = nodes.codes[node];
            if (code == Codes.LIST) {
                return fail(Fails.WRONG_KIND, node);
            }
            if (workedCount >= MOST_WORKED) {
                return fail(Fails.TOO_LONG, node);
            }
            workedCount++;
            switch (code) {
                case Codes.NUMBER: return comeToNumber(nodes.a[node]);
                case Codes.NULL: return comeTo(NULL, NONE);
                case Codes.GET: return workGet(node);
                case Codes.SET: return workSet(node);
                case Codes.NOTE: return workNote(node);
                case Codes.FAIL: return fail(Fails.TOLD_TO, node);
                case Codes.PLUS:
                case Codes.OVER: return workWithNumbers(node);
                case Codes.NEW: return comeToMade(store.addInstance(nodes.a[node]), node);
                case Codes.MAKE: return workMake(node);
                case Codes.FILLED: return workFilled(node);
                case Codes.LENGTH: return workLength(node);
                case Codes.AT:
                case Codes.PUT:
                case Codes.ADD:
                case Codes.STEP: return workAtPlace(node);
                case Codes.COPY: return workCopy(node);
                case Codes.CAST: return workCast(node);
                case Codes.IS: return workIs(node);
                case Codes.SAME: return workSame(node);
                case Codes.EACH: return workEach(node);
                case Codes.VARIED: return workVaried(node);
                case Codes.THEN: return work(nodes.a[node], node) && work(nodes.b[node], node);
                case Codes.IF: return workIf(node);
                case Codes.CATCH: return workCatch(node);
                default: return workMove(node);
            }
        }

        private boolean fail(int how, int node) {
            failed = how;
            failedAt = node;
            return false;
        }

        private boolean comeTo(int itsKind, long itsNumber) {
            kind = itsKind;
            number = itsNumber;
            return true;
        }

        private boolean comeToNumber(long itsNumber) {
            return comeTo(NUMBER, itsNumber);
        }

        private boolean comeToMade(int made, int node) {
            return made == NONE ? fail(Fails.NO_ROOM, node) : comeTo(THING, made);
        }

        private boolean comeToElement(int array, int i) {
            return comeTo(store.kindAt(array, i), store.numberAt(array, i));
        }

        private boolean wantNumber(int node) {
            return kind == NUMBER || fail(Fails.WRONG_KIND, node);
        }

        private boolean wantArrayOrNull(int node) {
            return kind == NULL || kind == THING && store.isArray((int) number)
                    || fail(Fails.WRONG_KIND, node);
        }

        private boolean wantArray(int node) {
            return wantArrayOrNull(node) && (kind == THING || fail(Fails.ON_NULL, node));
        }

        /** An array that is NULL is told as NONE. */
        private boolean wantPlace(int array, int i, int node) {
            if (array == NONE) {
                return fail(Fails.ON_NULL, node);
            }
            return store.hasElement(array, i) || fail(Fails.NO_ELEMENT, node);
        }

        private boolean wantPlaceToAdd(int array, int i, int node) {
            if (!wantPlace(array, i, node)) {
                return false;
            }
            int type = store.elementTypeOf(array);
            return Types.isOfNumbers(type) && type != Types.BOOLEAN
                    || fail(Fails.WRONG_KIND, node);
        }

        /** Puts the VALUE at hand, and comes to what then stands there. */
        private boolean put(int array, int i, int node) {
            int type = store.elementTypeOf(array);
            if ((kind == NUMBER) != Types.isOfNumbers(type)) {
                return fail(Fails.WRONG_KIND, node);
            }
            if (kind == THING && !store.isUnder((int) number, type)) {
                return fail(Fails.NOT_SUB, node);
            }
            if (kind == NUMBER) {
                store.putNumber(array, i, number);
            } else {
                store.putReference(array, i, number);
            }
            return comeToElement(array, i);
        }

        private boolean workGet(int node) {
            int variable = nodes.a[node];
            return comeTo(variables.kinds[variable], variables.numbers[variable]);
        }

        private boolean workSet(int node) {
            if (!work(nodes.b[node], node)) {
                return false;
            }
            variables.set(nodes.a[node], kind, number);
            return true;
        }

        private boolean workNote(int node) {
            trace.add(nodes.a[node]);
            return work(nodes.b[node], node);
        }

        /** PLUS, OVER. */
        private boolean workWithNumbers(int node) {
            if (!work(nodes.a[node], node) || !wantNumber(node)) {
                return false;
            }
            long left = number;
            if (!work(nodes.b[node], node) || !wantNumber(node)) {
                return false;
            }
            if (nodes.codes[node] == Codes.PLUS) {
                return comeToNumber(left + number);
            }
            return number == 0 ? fail(Fails.OVER_0, node) : comeToNumber(left / number);
        }

        private boolean workMake(int node) {
            boolean hasSecond = nodes.c[node] != NONE;
            boolean hasThird = nodes.d[node] != NONE;
            int second = 0;
            int third = 0;
            if (!work(nodes.b[node], node) || !wantNumber(node)) {
                return false;
            }
            int first = (int) number;
            if (hasSecond) {
                if (!work(nodes.c[node], node) || !wantNumber(node)) {
                    return false;
                }
                second = (int) number;
            }
            if (hasThird) {
                if (!work(nodes.d[node], node) || !wantNumber(node)) {
                    return false;
                }
                third = (int) number;
            }
            if (first < 0 || second < 0 || third < 0) {
                return fail(Fails.SIZE_BELOW_0, node);
            }
            return comeToMade(store.addArrays(nodes.a[node], first, hasSecond ? second : NONE,
                    hasThird ? third : NONE), node);
        }

        private boolean workFilled(int node) {
            int list = nodes.b[node];
            int length = nodes.lengthOfList(list);
            int made = store.addArray(nodes.a[node], length);
            if (made == NONE) {
                return fail(Fails.NO_ROOM, node);
            }
            for (int i = 0; i < length; i++) {
                if (!work(nodes.itemOf(list, i), node) || !put(made, i, node)) {
                    return false;
                }
            }
            return comeTo(THING, made);
        }

        private boolean workLength(int node) {
            if (!work(nodes.a[node], node) || !wantArray(node)) {
                return false;
            }
            return comeToNumber(store.lengths[(int) number]);
        }

        /** AT, PUT, ADD, STEP: they begin alike, and differ in when they look at the place. */
        private boolean workAtPlace(int node) {
            if (!work(nodes.a[node], node) || !wantArrayOrNull(node)) {
                return false;
            }
            int array = (int) number;
            if (!work(nodes.b[node], node) || !wantNumber(node)) {
                return false;
            }
            int place = (int) number;
            switch (nodes.codes[node]) {
                case Codes.AT:
                    return wantPlace(array, place, node) && comeToElement(array, place);
                case Codes.PUT:
                    return work(nodes.c[node], node) && wantPlace(array, place, node)
                            && put(array, place, node);
                case Codes.STEP:
                    return wantPlaceToAdd(array, place, node) && step(array, place);
                default:
                    return wantPlaceToAdd(array, place, node) && workAdd(array, place, node);
            }
        }

        private boolean workAdd(int array, int place, int node) {
            long before = store.numberAt(array, place);
            double realBefore = store.realAt(array, place);
            if (!work(nodes.c[node], node) || !wantNumber(node)) {
                return false;
            }
            store.putSum(array, place, before, realBefore, number);
            return comeToElement(array, place);
        }

        private boolean step(int array, int place) {
            long before = store.numberAt(array, place);
            store.putSum(array, place, before, store.realAt(array, place), 1);
            return comeToNumber(before);
        }

        private boolean workCopy(int node) {
            if (!work(nodes.a[node], node) || !wantArray(node)) {
                return false;
            }
            return comeToMade(store.addCopy((int) number), node);
        }

        private boolean workCast(int node) {
            int type = nodes.a[node];
            if (!work(nodes.b[node], node)) {
                return false;
            }
            if ((kind == NUMBER) != Types.isOfNumbers(type)) {
                return fail(Fails.WRONG_KIND, node);
            }
            if (kind == NUMBER) {
                return comeToNumber(Types.cut(type, number));
            }
            return kind == NULL || store.isUnder((int) number, type) || fail(Fails.CAST, node);
        }

        private boolean workIs(int node) {
            if (!work(nodes.b[node], node)) {
                return false;
            }
            boolean is = kind == THING && store.isUnder((int) number, nodes.a[node]);
            return comeToNumber(is ? 1 : 0);
        }

        private boolean workSame(int node) {
            if (!work(nodes.a[node], node)) {
                return false;
            }
            int kindBefore = kind;
            long numberBefore = number;
            if (!work(nodes.b[node], node)) {
                return false;
            }
            if ((kind == NUMBER) != (kindBefore == NUMBER)) {
                return fail(Fails.WRONG_KIND, node);
            }
            return comeToNumber(number == numberBefore ? 1 : 0);
        }

        private boolean workEach(int node) {
            if (!work(nodes.a[node], node) || !wantArray(node)) {
                return false;
            }
            int array = (int) number;
            int length = store.lengths[array];
            for (int i = 0; i < length; i++) {
                variables.set(nodes.b[node], store.kindAt(array, i), store.numberAt(array, i));
                if (!work(nodes.c[node], node)) {
                    return false;
                }
            }
            return comeToNumber(length);
        }

        private boolean workVaried(int node) {
            int type = nodes.a[node];
            int list = nodes.b[node];
            int length = nodes.lengthOfList(list);
            int mark = held.count;
            for (int i = 0; i < length; i++) {
                if (!work(nodes.itemOf(list, i), node)) {
                    return false;
                }
                held.add(kind, number);
            }
            // Nothing is worked from here on, so what was held still stands in its row.
            held.count = mark;
            if (length == 1 && isNullOrUnder(type)) {
                return true;
            }
            int made = store.addArray(type, length);
            if (made == NONE) {
                return fail(Fails.NO_ROOM, node);
            }
            for (int i = 0; i < length; i++) {
                comeTo(held.kindOf(mark + i), held.numberOf(mark + i));
                if (!put(made, i, node)) {
                    return false;
                }
            }
            return comeTo(THING, made);
        }

        private boolean isNullOrUnder(int type) {
            return kind == NULL || kind == THING && store.isUnder((int) number, type);
        }

        private boolean workIf(int node) {
            if (!work(nodes.a[node], node) || !wantNumber(node)) {
                return false;
            }
            return work(number != 0 ? nodes.b[node] : nodes.c[node], node);
        }

        private boolean workCatch(int node) {
            int mark = held.count;
            if (work(nodes.a[node], node)) {
                return true;
            }
            if (failed == Fails.TOO_LONG) {
                return false;
            }
            if (takenCount >= MOST_TAKEN) {
                return fail(Fails.TOO_LONG, node);
            }
            takenCount++;
            // A VARIED that FAILED within x has left what it held.
            held.count = mark;
            variables.set(nodes.c[node], NUMBER, failed);
            failedAt = NONE;
            return work(nodes.b[node], node);
        }

        private boolean workMove(int node) {
            int list = nodes.d[node];
            if (!work(nodes.a[node], node) || !wantArrayOrNull(node)) {
                return false;
            }
            int from = (int) number;
            if (!work(nodes.b[node], node) || !wantNumber(node)) {
                return false;
            }
            int source = (int) number;
            if (!work(nodes.c[node], node) || !wantArrayOrNull(node)) {
                return false;
            }
            int to = (int) number;
            if (!work(nodes.itemOf(list, 0), node) || !wantNumber(node)) {
                return false;
            }
            int goal = (int) number;
            if (!work(nodes.itemOf(list, 1), node) || !wantNumber(node)) {
                return false;
            }
            int span = (int) number;
            if (from == NONE || to == NONE) {
                return fail(Fails.ON_NULL, node);
            }
            if (!store.mayMove(from, to)) {
                return fail(Fails.NOT_SUB, node);
            }
            if (!store.hasSpan(from, source, span) || !store.hasSpan(to, goal, span)) {
                return fail(Fails.NO_ELEMENT, node);
            }
            return store.move(from, source, to, goal, span)
                    ? comeToNumber(span) : fail(Fails.NOT_SUB, node);
        }
    }
}
