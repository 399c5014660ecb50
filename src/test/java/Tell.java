/** Tells NODES to one object by name, so that tests read as expressions. */
final class Tell {
    static final int NONE = ArrayRules.NONE, OUTSIDE = ArrayRules.OUTSIDE, ROOM = ArrayRules.ROOM;
    static final int BOOLEAN = 0, BYTE = 1, CHAR = 2, SHORT = 3, INT = 4, LONG = 5, FLOAT = 6;
    static final int DOUBLE = 7, OBJECT = 8, NAMED = 9, ROOT = 10, LEAF = 11;
    static final int A_NUMBER = 0, A_NULL = 1, A_THING = 2;

    final ArrayRules x = new ArrayRules();

    static int array(int base) {
        return base + 16;
    }

    static int array2(int base) {
        return base + 32;
    }

    static int array3(int base) {
        return base + 48;
    }

    /** What run() answers if it FAILS with a number. */
    static int failed(int with) {
        return -10 - with;
    }

    private int told(int code, int a, int b, int c, int d) {
        int node = x.node(code, a, b, c, d);
        if (node < 0) {
            Check.due("node(" + code + ", " + a + ", " + b + ", " + c + ", " + d + ")", node, 0);
        }
        return node;
    }

    // Parts that a CODE does not have are told as nonsense here, since they are not looked at.
    int number(int a) {
        return told(0, a, -77, -77, -77);
    }

    int nul() {
        return told(1, -77, -77, -77, -77);
    }

    int get(int variable) {
        return told(2, variable, -77, -77, -77);
    }

    int set(int variable, int y) {
        return told(3, variable, y, -77, -77);
    }

    int note(int a, int y) {
        return told(4, a, y, -77, -77);
    }

    int fail() {
        return told(5, -77, -77, -77, -77);
    }

    int plus(int x, int y) {
        return told(6, x, y, -77, -77);
    }

    int over(int x, int y) {
        return told(7, x, y, -77, -77);
    }

    int make(int type) {
        return told(8, type, -77, -77, -77);
    }

    int array(int type, int size) {
        return told(9, type, size, NONE, NONE);
    }

    int array(int type, int size, int second) {
        return told(9, type, size, second, NONE);
    }

    int array(int type, int size, int second, int third) {
        return told(9, type, size, second, third);
    }

    /** A LIST of NODES; NONE, if there are none. */
    int list(int... nodes) {
        int list = NONE;
        for (int node : nodes) {
            list = told(10, list, node, -77, -77);
        }
        return list;
    }

    int filled(int type, int list) {
        return told(11, type, list, -77, -77);
    }

    int length(int x) {
        return told(12, x, -77, -77, -77);
    }

    int at(int x, int y) {
        return told(13, x, y, -77, -77);
    }

    int put(int x, int y, int z) {
        return told(14, x, y, z, -77);
    }

    int add(int x, int y, int z) {
        return told(15, x, y, z, -77);
    }

    int step(int x, int y) {
        return told(16, x, y, -77, -77);
    }

    int copy(int x) {
        return told(17, x, -77, -77, -77);
    }

    int cast(int type, int y) {
        return told(18, type, y, -77, -77);
    }

    int is(int type, int y) {
        return told(19, type, y, -77, -77);
    }

    int same(int x, int y) {
        return told(20, x, y, -77, -77);
    }

    int each(int x, int variable, int z) {
        return told(21, x, variable, z, -77);
    }

    int varied(int type, int list) {
        return told(22, type, list, -77, -77);
    }

    int then(int x, int y) {
        return told(23, x, y, -77, -77);
    }

    int either(int x, int y, int z) {
        return told(24, x, y, z, -77);
    }

    int taken(int x, int y, int variable) {
        return told(25, x, y, variable, -77);
    }

    int move(int x, int y, int z, int p, int n) {
        return told(26, x, y, z, list(p, n));
    }

    /** A number of 64 bits, of NODES, which use VARIABLE 7. */
    int large(long number) {
        int get = get(7);
        int shifted = set(7, plus(get, get));
        for (int i = 0; i < 5; i++) {
            shifted = then(shifted, shifted);
        }
        long low = number & 0xffffffffL;
        int half = number((int) (low / 2));
        int lower = plus(plus(half, half), number((int) (low % 2)));
        return then(set(7, number((int) (number >> 32))), then(shifted, plus(get, lower)));
    }

    /** A VARIABLE becomes a number of 64 bits; there are no NODES then. */
    void give(int variable, long number) {
        x.clear();
        x.run(set(variable, large(number)));
        Check.due("VARIABLE " + variable, x.get(variable), number);
        x.clear();
    }

    /** Works a NODE that is to come to a number. */
    void dueNumber(String what, int node, long want) {
        Check.due(what + ": run", x.run(node), A_NUMBER);
        Check.due(what + ": value", x.value(), want);
        Check.due(what + ": where", x.where(), NONE);
    }

    void dueNull(String what, int node) {
        Check.due(what + ": run", x.run(node), A_NULL);
        Check.due(what + ": value", x.value(), NONE);
        Check.due(what + ": where", x.where(), NONE);
    }

    void dueThing(String what, int node, int want) {
        Check.due(what + ": run", x.run(node), A_THING);
        Check.due(what + ": value", x.value(), want);
        Check.due(what + ": where", x.where(), NONE);
    }

    void dueFail(String what, int node, int with, int where) {
        Check.due(what + ": run", x.run(node), failed(with));
        Check.due(what + ": value", x.value(), 0);
        Check.due(what + ": where", x.where(), where);
    }

    /** How many THINGS and ELEMENTS there are. */
    void dueTold(String what, int things, int elements) {
        Check.due(what + ": THINGS", x.told(1), things);
        Check.due(what + ": ELEMENTS", x.told(2), elements);
    }

    void dueNotes(String what, int... want) {
        Check.due(what + ": notes", x.notes(), want.length);
        for (int i = 0; i < want.length; i++) {
            Check.due(what + ": note " + i, x.note(i), want[i]);
        }
    }

    void dueElements(String what, int thing, long... want) {
        Check.due(what + ": length", x.thing(thing, 1), want.length);
        for (int i = 0; i < want.length; i++) {
            Check.due(what + ": element " + i, x.element(thing, i), want[i]);
        }
    }
}
