import java.util.Arrays;

/**
 * "A number where a reference is wanted (NULL, a THING), a reference where a number is, a THING that
 * is no ARRAY where one is: FAILS 9, as soon as that part was worked (but as PUT and ADD say)".
 */
public final class KindsTest {
    private static final int INTS = Tell.array(Tell.INT);
    private static final int MAKE = 9, PUT = 14, EACH = 21, IF = 24, MOVE = 26;

    // VARIABLES with a VALUE of each kind.
    private static final int A_NUMBER = 0, A_NULL = 1, AN_INSTANCE = 2, AN_ARRAY = 3, LEAVES = 4, BOOLEANS = 5;

    /** What each part is to be: N a number, A an ARRAY or NULL, x any VALUE. */
    private static final int[] CODES = {6, 7, 9, 12, 13, 14, 15, 16, 17, 21, 24, 26};
    private static final String[] WANTED = {"NN", "NN", "NNN", "A", "AN", "ANx", "ANN", "AN", "A", "Ax", "Nxx", "ANANN"};

    public static void main(String[] args) {
        for (int i = 0; i < CODES.length; i++) {
            for (int part = 0; part < WANTED[i].length(); part++) {
                eachKind(CODES[i], WANTED[i], part);
            }
        }
        anyKindWhereNoneIsWanted();
        aListIsNoValue();
        putLooksLast();
        addLooksAheadOfZ();
        casts();
        sameOfTwoKinds();
        aFailGoesAheadOfAKind();
        aFailOfOtherParts();
        Check.end();
    }

    /** All VARIABLES of the kinds above; there are no NODES. */
    private static Tell withKinds() {
        Tell t = new Tell();
        int one = t.number(1);
        t.x.run(t.set(A_NUMBER, one));
        t.x.run(t.set(A_NULL, t.nul()));
        t.x.run(t.set(AN_INSTANCE, t.make(Tell.LEAF)));
        t.x.run(t.set(AN_ARRAY, t.array(INTS, t.number(3))));
        t.x.run(t.set(LEAVES, t.array(Tell.array(Tell.LEAF), t.number(3))));
        t.x.run(t.set(BOOLEANS, t.array(Tell.array(Tell.BOOLEAN), t.number(3))));
        t.x.clear();
        return t;
    }

    /** VARIABLES whose VALUES the parts of a CODE may have. */
    private static int[] fitting(String wanted) {
        int[] variables = new int[wanted.length()];
        for (int i = 0; i < variables.length; i++) {
            variables[i] = wanted.charAt(i) == 'A' ? AN_ARRAY : A_NUMBER;
        }
        return variables;
    }

    /** GETS of VARIABLES, each with a note of its own. */
    private static int[] noted(Tell t, int[] variables) {
        int[] parts = new int[variables.length];
        for (int i = 0; i < parts.length; i++) {
            parts[i] = t.note(i, t.get(variables[i]));
        }
        return parts;
    }

    private static int node(Tell t, int code, int[] parts) {
        int[] p = Arrays.copyOf(parts, 5);
        switch (code) {
            case MAKE: return t.array(Tell.array3(Tell.INT), p[0], p[1], p[2]);
            case EACH: return t.each(p[0], 7, p[1]);
            case MOVE: return t.move(p[0], p[1], p[2], p[3], p[4]);
            default: return t.x.node(code, p[0], p[1], p[2], -77);
        }
    }

    private static void eachKind(int code, String wanted, int part) {
        for (int kind = A_NUMBER; kind <= AN_ARRAY; kind++) {
            Tell t = withKinds();
            int[] variables = fitting(wanted);
            variables[part] = kind;
            int node = node(t, code, noted(t, variables));
            String what = "CODE " + code + ", part " + part + " of kind " + kind;
            if (isWrong(wanted.charAt(part), kind)) {
                t.dueFail(what, node, 9, node);
                Check.due(what + ": what comes behind is not worked", t.x.notes(), part + 1);
                Check.due(what + ": the last one", t.x.note(part), part);
            } else if (wanted.charAt(part) == 'A' && kind == A_NULL) {
                t.dueFail(what, node, 1, node);
            } else if (code == PUT && part == 2 && kind != A_NUMBER) {
                t.dueFail(what, node, 9, node);
            } else {
                Check.due(what + ": FAILS", t.x.run(node) < 0 ? 1 : 0, 0);
            }
        }
    }

    private static boolean isWrong(char wanted, int kind) {
        return wanted == 'N' ? kind != A_NUMBER
                : wanted == 'A' && (kind == A_NUMBER || kind == AN_INSTANCE);
    }

    /** SET, NOTE, THEN, IF's y and z, CATCH, EACH's z take any VALUE, IS too. */
    private static void anyKindWhereNoneIsWanted() {
        int[] answers = {Tell.A_NUMBER, Tell.A_NULL, Tell.A_THING, Tell.A_THING};
        for (int kind = A_NUMBER; kind <= AN_ARRAY; kind++) {
            Tell t = withKinds();
            int get = t.get(kind);
            int one = t.number(1);
            int zero = t.number(0);
            int[] nodes = {t.set(7, get), t.note(1, get), t.then(get, get), t.then(one, get), t.either(one, get, zero),
                t.either(zero, one, get), t.taken(get, one, 6), t.taken(t.fail(), get, 6)};
            for (int node : nodes) {
                Check.due("any kind: run", t.x.run(node), answers[kind]);
                Check.due("any kind: value", t.x.value(), t.x.get(kind));
            }
            t.dueNumber("IS of kind " + kind, t.is(Tell.OBJECT, get), kind >= AN_INSTANCE ? 1 : 0);
            t.dueNumber("EACH with kind " + kind, t.each(t.get(AN_ARRAY), 7, get), 3);
        }
    }

    /** "not worked by itself (FAILS 9)". */
    private static void aListIsNoValue() {
        Tell t = withKinds();
        int one = t.number(1);
        int list = t.list(one);
        int row = t.get(AN_ARRAY);
        int[] nodes = {list, t.set(6, list), t.note(1, list), t.plus(list, one), t.plus(one, list), t.array(INTS, list),
            t.list(one, list), t.filled(INTS, t.list(list)), t.length(list), t.at(row, list), t.put(row, one, list),
            t.add(row, one, list), t.copy(list), t.cast(Tell.INT, list), t.is(Tell.OBJECT, list), t.same(one, list),
            t.each(list, 7, one), t.each(row, 7, list), t.varied(INTS, t.list(one, list)), t.then(list, one),
            t.either(list, one, one), t.either(one, list, one), t.taken(t.fail(), list, 7),
            t.move(row, list, row, one, one), t.move(row, one, row, one, list)};
        for (int node : nodes) {
            boolean isList = node == nodes[6];
            t.dueFail("a LIST as part", node, 9, isList ? node : list);
        }
        t.dueNumber("a LIST, taken", t.taken(list, t.get(7), 7), 9);
    }

    /** "x, y, z are worked; then x is NULL: 1; no such: 2; a number where .. or the other way: 9; .. 3". */
    private static void putLooksLast() {
        int[][] rows = {
            // x, y, kind of z, FAILS
            {A_NULL, 0, AN_INSTANCE, 1}, {AN_ARRAY, -1, AN_INSTANCE, 2}, {AN_ARRAY, 3, A_NULL, 2},
            {AN_ARRAY, 2, A_NULL, 9}, {AN_ARRAY, 0, AN_INSTANCE, 9}, {AN_ARRAY, 0, AN_ARRAY, 9},
            {LEAVES, 3, A_NUMBER, 2}, {LEAVES, 2, A_NUMBER, 9}, {LEAVES, 3, AN_ARRAY, 2}, {LEAVES, 2, AN_ARRAY, 3},
            {BOOLEANS, 2, AN_INSTANCE, 9}, {BOOLEANS, 3, A_NULL, 2},
        };
        for (int[] row : rows) {
            Tell t = withKinds();
            int put = t.put(t.note(1, t.get(row[0])), t.note(2, t.number(row[1])), t.note(3, t.get(row[2])));
            t.dueFail("PUT", put, row[3], put);
            t.dueNotes("PUT: all are worked", 1, 2, 3);
        }
        Tell t = withKinds();
        t.dueThing("PUT a LEAF", t.put(t.get(LEAVES), t.number(2), t.get(AN_INSTANCE)), 0);
        t.dueNull("PUT NULL", t.put(t.get(LEAVES), t.number(2), t.get(A_NULL)));
        t.dueNumber("PUT a number", t.put(t.get(AN_ARRAY), t.number(2), t.get(A_NUMBER)), 1);
    }

    /** "NULL: 1; no such: 2; ELEMENTS are references, or boolean: 9; then z is worked". */
    private static void addLooksAheadOfZ() {
        int[][] rows = {{A_NULL, 0, 1}, {LEAVES, -1, 2}, {LEAVES, 3, 2}, {LEAVES, 2, 9}, {LEAVES, 0, 9},
            {BOOLEANS, -1, 2}, {BOOLEANS, 3, 2}, {BOOLEANS, 2, 9}, {AN_ARRAY, 3, 2}, {AN_ARRAY, -1, 2}};
        for (int[] row : rows) {
            Tell t = withKinds();
            int array = t.note(1, t.get(row[0]));
            int place = t.note(2, t.number(row[1]));
            int add = t.add(array, place, t.note(3, t.fail()));
            t.dueFail("ADD", add, row[2], add);
            t.dueNotes("ADD: z is not worked", 1, 2);
            int step = t.step(array, place);
            t.dueFail("STEP", step, row[2], step);
            t.dueNotes("STEP", 1, 2);
        }
        for (int base = 1; base < 8; base++) {
            Tell t = new Tell();
            int row = t.array(Tell.array(base), t.number(1));
            t.dueNumber("ADD to BASE " + base, t.add(row, t.number(0), t.number(4)), 4);
            t.dueNumber("STEP of BASE " + base, t.step(row, t.number(0)), 0);
        }
    }

    /** "if a is of BASE 0 .. 7 without DIMS (else 9); NULL stays, a THING, if .. (else FAILS 5; .. 9)". */
    private static void casts() {
        for (int type = 0; type < 64; type++) {
            if (type % 16 > 11) {
                continue;
            }
            Tell t = withKinds();
            for (int kind = A_NUMBER; kind <= AN_ARRAY; kind++) {
                int cast = t.cast(type, t.get(kind));
                String what = "CAST of kind " + kind + " to " + type;
                boolean ofNumbers = type < 8;
                if (ofNumbers != (kind == A_NUMBER)) {
                    t.dueFail(what, cast, 9, cast);
                } else if (kind == A_NUMBER) {
                    t.dueNumber(what, cast, 1);
                } else if (kind == A_NULL) {
                    t.dueNull(what, cast);
                } else if (t.x.sub(kind == AN_INSTANCE ? Tell.LEAF : INTS, type) == 1) {
                    t.dueThing(what, cast, (int) t.x.get(kind));
                } else {
                    t.dueFail(what, cast, 5, cast);
                }
            }
        }
    }

    private static void sameOfTwoKinds() {
        for (int left = A_NUMBER; left <= LEAVES; left++) {
            for (int right = A_NUMBER; right <= LEAVES; right++) {
                Tell t = withKinds();
                int same = t.same(t.note(1, t.get(left)), t.note(2, t.get(right)));
                if (left == A_NUMBER != (right == A_NUMBER)) {
                    t.dueFail("SAME of " + left + " and " + right, same, 9, same);
                } else {
                    t.dueNumber("SAME of " + left + " and " + right, same, left == right ? 1 : 0);
                }
                t.dueNotes("SAME works both", 1, 2);
            }
        }
        Tell t = withKinds();
        int thing = t.same(t.get(AN_INSTANCE), t.number(0));
        t.dueFail("THING 0 and 0", thing, 9, thing);
        int nul = t.same(t.nul(), t.number(-1));
        t.dueFail("NULL and NONE", nul, 9, nul);
    }

    /** A part that FAILS is where, not its whole; what comes behind it is not worked. */
    private static void aFailGoesAheadOfAKind() {
        for (int i = 0; i < CODES.length; i++) {
            for (int part = 0; part < WANTED[i].length(); part++) {
                Tell t = withKinds();
                int fail = t.fail();
                int[] parts = noted(t, fitting(WANTED[i]));
                parts[part] = t.note(part, fail);
                int whole = node(t, CODES[i], parts);
                if (CODES[i] == IF && part == 2) {
                    t.dueNumber("IF, whose z would FAIL", whole, 1);
                } else {
                    t.dueFail("CODE " + CODES[i] + ", part " + part + " FAILS", whole, 7, fail);
                    Check.due("CODE " + CODES[i] + ": the last note", t.x.note(t.x.notes() - 1), part);
                }
            }
        }
    }

    /** "If one FAILS, what would come behind it is not worked": of the CODES that take any VALUE. */
    private static void aFailOfOtherParts() {
        Tell t = withKinds();
        int fail = t.fail();
        int note = t.note(1, t.get(A_NUMBER));
        int[] first = {t.set(6, fail), t.same(fail, note), t.then(fail, note), t.cast(Tell.INT, fail),
            t.is(Tell.OBJECT, fail), t.filled(INTS, t.list(fail, note)), t.varied(INTS, t.list(fail, note)),
            t.varied(INTS, t.list(fail))};
        for (int node : first) {
            t.dueFail("the first part FAILS", node, 7, fail);
            t.dueNotes("the first part FAILS");
        }
        int[] second = {t.same(note, fail), t.then(note, fail), t.filled(INTS, t.list(note, fail, note)),
            t.varied(INTS, t.list(note, fail, note))};
        for (int node : second) {
            t.dueFail("the second part FAILS", node, 7, fail);
            t.dueNotes("the second part FAILS", 1);
        }
        Check.due("SET of what FAILS", t.x.has(6), Tell.A_NUMBER);
        Check.due("SET of what FAILS", t.x.get(6), 0);
    }
}
