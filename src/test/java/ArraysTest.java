/** ARRAYS that are made, and their ELEMENTS; promises 12 and 13. */
public final class ArraysTest {
    private static final int BIG = Integer.MAX_VALUE;

    public static void main(String[] args) {
        things();
        elements();
        elementsAtFirst();
        makeInOrder();
        makeThreeSizes();
        makeFails();
        filled();
        filledFails();
        length();
        at();
        put();
        putFails();
        add();
        addFails();
        step();
        copy();
        Check.end();
    }

    private static void things() {
        Tell t = new Tell();
        int two = t.number(2);
        t.x.run(t.array(Tell.array2(Tell.LEAF), two, two));
        t.x.run(t.make(Tell.LEAF));
        t.x.run(t.array(Tell.array(Tell.INT), two));
        Check.due("type", t.x.thing(0, 0), Tell.array2(Tell.LEAF));
        Check.due("LENGTH", t.x.thing(0, 1), 2);
        Check.due("THINGS in it", t.x.thing(0, 2), 2);
        Check.due("type within", t.x.thing(2, 0), Tell.array(Tell.LEAF));
        Check.due("THINGS in it, none", t.x.thing(2, 2), 0);
        Check.due("type of an INSTANCE", t.x.thing(3, 0), Tell.LEAF);
        Check.due("LENGTH of an INSTANCE", t.x.thing(3, 1), Tell.NONE);
        Check.due("THINGS in an INSTANCE", t.x.thing(3, 2), 0);
        Check.due("THINGS among numbers", t.x.thing(4, 2), 0);
        for (int what : new int[] {-1, 3, Integer.MIN_VALUE, BIG}) {
            Check.due("what " + what, t.x.thing(0, what), Tell.OUTSIDE);
        }
        for (int thing : new int[] {-1, 5, 400, Integer.MIN_VALUE, BIG}) {
            for (int what = 0; what < 3; what++) {
                Check.due("THING " + thing, t.x.thing(thing, what), Tell.OUTSIDE);
            }
        }
    }

    private static void elements() {
        Tell t = new Tell();
        int one = t.number(1);
        int row = t.array(Tell.array(Tell.OBJECT), t.number(3));
        t.x.run(t.make(Tell.ROOT));
        t.x.run(t.put(row, one, t.make(Tell.LEAF)));
        t.dueElements("references", 1, Tell.NONE, 2, Tell.NONE);
        Check.due("bits of a reference", t.x.bits(1, 1), 2);
        Check.due("bits of NULL", t.x.bits(1, 0), Tell.NONE);
        Check.due("THINGS in it", t.x.thing(1, 2), 1);
        int[][] none = {{1, -1}, {1, 3}, {0, 0}, {3, 0}, {-1, 0}, {BIG, 0}, {1, BIG}, {2, -1}};
        for (int[] pair : none) {
            Check.due("no ELEMENT", t.x.element(pair[0], pair[1]), 0);
            Check.due("no ELEMENT: bits", t.x.bits(pair[0], pair[1]), 0);
        }
    }

    private static void elementsAtFirst() {
        for (int type = 16; type < 64; type++) {
            if (type % 16 > 11) {
                continue;
            }
            Tell t = new Tell();
            t.x.run(t.array(type, t.number(2)));
            long want = type < 24 ? 0 : Tell.NONE;
            t.dueElements("at first, of type " + type, 0, want, want);
            Check.due("bits at first", t.x.bits(0, 0), want);
        }
    }

    private static void makeInOrder() {
        Tell t = new Tell();
        int two = t.note(2, t.number(2));
        int three = t.note(3, t.number(3));
        t.dueThing("MAKE", t.array(Tell.array2(Tell.INT), two, three), 0);
        t.dueNotes("MAKE", 2, 3);
        Check.due("MAKE: THINGS", t.x.told(1), 3);
        Check.due("MAKE: ELEMENTS", t.x.told(2), 8);
        t.dueElements("MAKE: rows", 0, 1, 2);
        t.dueElements("MAKE: the first row", 1, 0, 0, 0);
        t.dueThing("fewer sizes than DIMS", t.array(Tell.array2(Tell.INT), three), 3);
        t.dueElements("fewer sizes than DIMS", 3, Tell.NONE, Tell.NONE, Tell.NONE);
        Check.due("fewer sizes: THINGS", t.x.told(1), 4);
    }

    private static void makeThreeSizes() {
        Tell t = new Tell();
        int two = t.number(2);
        t.dueThing("MAKE", t.array(Tell.array3(Tell.ROOT), two, two, t.number(1)), 0);
        t.dueElements("the ARRAY", 0, 1, 4);
        t.dueElements("its first ELEMENT", 1, 2, 3);
        t.dueElements("its second ELEMENT", 4, 5, 6);
        for (int inner : new int[] {2, 3, 5, 6}) {
            t.dueElements("within", inner, Tell.NONE);
            Check.due("type within", t.x.thing(inner, 0), Tell.array(Tell.ROOT));
        }
        Check.due("ELEMENTS", t.x.told(2), 2 + 4 + 4);
        t.dueThing("one size of three", t.array(Tell.array3(Tell.ROOT), two), 7);
    }

    private static void makeFails() {
        Tell t = new Tell();
        int type = Tell.array3(Tell.INT);
        int less = t.note(1, t.number(-1));
        int two = t.note(2, t.number(2));
        int nul = t.note(3, t.nul());
        int fail = t.fail();
        int[][] rows = {{less, two, two}, {two, less, two}, {two, two, less}, {less, less, less}};
        for (int[] row : rows) {
            int make = t.array(type, row[0], row[1], row[2]);
            t.dueFail("a size below 0", make, 4, make);
            Check.due("a size below 0: all are worked", t.x.notes(), 3);
        }
        int make = t.array(type, t.number(0), less);
        t.dueFail("below 0 within nothing", make, 4, make);
        t.dueFail("all are worked first", t.array(type, less, fail), 7, fail);
        make = t.array(type, less, nul, two);
        t.dueFail("a reference at once", make, 9, make);
        t.dueNotes("a reference at once", 1, 3);
        make = t.array(type, t.make(Tell.ROOT), two);
        t.dueFail("a THING at once", make, 9, make);
        t.dueNotes("a THING at once");
        make = t.array(type, t.number(BIG), less);
        t.dueFail("below 0 comes ahead of no room", make, 4, make);
        Check.due("no ARRAYS", t.x.told(1), 1);
    }

    private static void filled() {
        Tell t = new Tell();
        int list = t.list(t.note(1, t.number(300)), t.note(2, t.number(-1)), t.note(3, t.number(5)));
        t.dueThing("FILLED", t.filled(Tell.array(Tell.BYTE), list), 0);
        t.dueNotes("FILLED", 1, 2, 3);
        t.dueElements("FILLED, cut", 0, 44, -1, 5);
        t.dueThing("FILLED with none", t.filled(Tell.array(Tell.LEAF), Tell.NONE), 1);
        Check.due("FILLED with none", t.x.thing(1, 1), 0);
        int inner = t.list(t.make(Tell.LEAF), t.nul(), t.filled(Tell.array(Tell.INT), list));
        t.dueThing("it is made ahead of them", t.filled(Tell.array(Tell.OBJECT), inner), 2);
        t.dueElements("it is made ahead of them", 2, 3, Tell.NONE, 4);
        Check.due("type of FILLED", t.x.thing(2, 0), Tell.array(Tell.OBJECT));
        Check.due("type within FILLED", t.x.thing(4, 0), Tell.array(Tell.INT));
    }

    private static void filledFails() {
        Tell t = new Tell();
        int two = t.note(2, t.number(2));
        int leaf = t.note(3, t.make(Tell.LEAF));
        int root = t.note(4, t.make(Tell.ROOT));
        int node = t.filled(Tell.array(Tell.INT), t.list(two, leaf, two));
        t.dueFail("a reference among numbers", node, 9, node);
        t.dueNotes("a reference among numbers", 2, 3);
        Check.due("it was made", t.x.thing(0, 0), Tell.array(Tell.INT));
        t.dueElements("those ahead stand there", 0, 2, 0, 0);
        node = t.filled(Tell.array(Tell.LEAF), t.list(leaf, root, leaf));
        t.dueFail("not SUB", node, 3, node);
        t.dueNotes("not SUB", 3, 4);
        t.dueElements("not SUB", 2, 3, Tell.NONE, Tell.NONE);
        node = t.filled(Tell.array(Tell.LEAF), t.list(two));
        t.dueFail("a number among references", node, 9, node);
        node = t.filled(Tell.array(Tell.INT), t.list(t.nul()));
        t.dueFail("NULL among numbers", node, 9, node);
        int things = t.x.told(1);
        t.x.run(t.array(Tell.array(Tell.INT), t.number(4000 - t.x.told(2))));
        node = t.filled(Tell.array(Tell.INT), t.list(two));
        t.dueFail("no room", node, 6, node);
        t.dueNotes("no room: nothing is worked");
        Check.due("no room: THINGS", t.x.told(1), things + 1);
        t.dueThing("nothing finds room", t.filled(Tell.array(Tell.INT), Tell.NONE), things + 1);
    }

    private static void length() {
        Tell t = new Tell();
        int row = t.array(Tell.array2(Tell.INT), t.number(3), t.number(2));
        t.dueNumber("LENGTH", t.length(row), 3);
        t.dueNumber("LENGTH 0", t.length(t.filled(Tell.array(Tell.INT), Tell.NONE)), 0);
        dueWrongArrays(t, new int[] {t.length(t.nul()), t.length(t.number(0)),
            t.length(t.make(Tell.OBJECT))});
    }

    /** NODES on NULL, on a number, on an INSTANCE. */
    private static void dueWrongArrays(Tell t, int[] nodes) {
        t.dueFail("on NULL", nodes[0], 1, nodes[0]);
        t.dueFail("on a number", nodes[1], 9, nodes[1]);
        t.dueFail("on an INSTANCE", nodes[2], 9, nodes[2]);
    }

    private static void at() {
        Tell t = new Tell();
        int row = t.set(0, t.filled(Tell.array(Tell.INT), t.list(t.number(4), t.number(5))));
        int one = t.note(1, t.number(1));
        t.dueNumber("AT", t.at(row, one), 5);
        int get = t.get(0);
        for (int place : new int[] {-1, 2, Integer.MIN_VALUE, BIG}) {
            int at = t.at(get, t.number(place));
            t.dueFail("AT " + place, at, 2, at);
        }
        int nul = t.at(t.nul(), one);
        t.dueFail("AT of NULL", nul, 1, nul);
        t.dueNotes("AT of NULL: y is worked", 1);
        int wrong = t.at(t.number(3), one);
        t.dueFail("AT of a number", wrong, 9, wrong);
        t.dueNotes("AT of a number: at once");
        wrong = t.at(t.make(Tell.LEAF), one);
        t.dueFail("AT of an INSTANCE", wrong, 9, wrong);
        t.dueNotes("AT of an INSTANCE: at once");
        wrong = t.at(t.nul(), t.nul());
        t.dueFail("AT a reference", wrong, 9, wrong);
        int rows = t.array(Tell.array2(Tell.INT), one, one);
        t.x.run(t.set(1, rows));
        int outer = (int) t.x.get(1);
        t.dueThing("AT: a THING", t.at(t.get(1), t.number(0)), outer + 1);
        t.dueNull("AT: NULL", t.at(t.array(Tell.array(Tell.LEAF), one), t.number(0)));
    }

    private static void put() {
        Tell t = new Tell();
        int row = t.note(1, t.set(0, t.array(Tell.array(Tell.CHAR), t.number(2))));
        int put = t.put(row, t.note(2, t.number(1)), t.note(3, t.number(-1)));
        t.dueNumber("PUT, cut", put, 65535);
        t.dueNotes("PUT", 1, 2, 3);
        t.dueElements("PUT", 0, 0, 65535);
        int names = t.set(1, t.array(Tell.array(Tell.NAMED), t.number(2)));
        t.x.run(names);
        int zero = t.number(0);
        t.dueThing("PUT a THING", t.put(t.get(1), zero, t.make(Tell.LEAF)), 2);
        t.dueElements("PUT a THING", 1, 2, Tell.NONE);
        t.dueNull("PUT NULL", t.put(t.get(1), zero, t.nul()));
        t.dueElements("PUT NULL", 1, Tell.NONE, Tell.NONE);
        int self = t.set(2, t.array(Tell.array(Tell.OBJECT), t.number(1)));
        t.dueThing("PUT within itself", t.put(self, zero, t.get(2)), 3);
        t.dueElements("PUT within itself", 3, 3);
        int chosen = t.put(t.get(0), zero, t.then(t.set(0, t.nul()), t.number(7)));
        t.dueNumber("x is as it was ahead of z", chosen, 7);
        t.dueElements("x is as it was ahead of z", 0, 7, 65535);
    }

    private static void putFails() {
        Tell t = new Tell();
        int one = t.note(1, t.number(1));
        int nul = t.note(2, t.nul());
        int leaf = t.note(3, t.make(Tell.LEAF));
        int root = t.note(4, t.make(Tell.ROOT));
        t.x.run(t.set(0, t.array(Tell.array(Tell.INT), t.number(1))));
        t.x.run(t.set(1, t.array(Tell.array(Tell.LEAF), t.number(2))));
        int ints = t.get(0);
        int leaves = t.get(1);
        int put = t.put(nul, one, leaf);
        t.dueFail("NULL", put, 1, put);
        t.dueNotes("NULL: z is worked", 2, 1, 3);
        put = t.put(ints, one, nul);
        t.dueFail("no such comes ahead of 9", put, 2, put);
        t.dueNotes("no such comes ahead of 9", 1, 2);
        put = t.put(ints, t.number(-1), one);
        t.dueFail("below 0", put, 2, put);
        put = t.put(ints, t.number(0), nul);
        t.dueFail("NULL among numbers", put, 9, put);
        put = t.put(ints, t.number(0), leaf);
        t.dueFail("a THING among numbers", put, 9, put);
        put = t.put(leaves, one, one);
        t.dueFail("a number among references", put, 9, put);
        put = t.put(leaves, one, root);
        t.dueFail("not SUB", put, 3, put);
        put = t.put(leaves, t.number(2), root);
        t.dueFail("no such comes ahead of 3", put, 2, put);
        t.dueElements("nothing was put", 1, Tell.NONE, Tell.NONE);
        put = t.put(one, one, leaf);
        t.dueFail("x a number", put, 9, put);
        t.dueNotes("x a number: at once", 1);
        put = t.put(leaf, one, leaf);
        t.dueFail("x an INSTANCE", put, 9, put);
        t.dueNotes("x an INSTANCE: at once", 3);
        put = t.put(nul, nul, leaf);
        t.dueFail("y a reference", put, 9, put);
        t.dueNotes("y a reference: at once", 2, 2);
    }

    private static void add() {
        Tell t = new Tell();
        int row = t.set(0, t.filled(Tell.array(Tell.BYTE), t.list(t.number(100), t.number(3))));
        t.dueNumber("ADD, cut", t.add(row, t.number(0), t.number(100)), -56);
        t.dueElements("ADD, cut", 0, -56, 3);
        int get = t.get(0);
        int one = t.number(1);
        int meanwhile = t.then(t.put(get, one, t.number(50)), t.number(4));
        t.dueNumber("the ELEMENT as it was ahead of z", t.add(get, one, meanwhile), 7);
        t.dueElements("the ELEMENT as it was ahead of z", 0, -56, 7);
        int other = t.add(get, one, t.then(t.set(0, t.nul()), t.number(1)));
        t.dueNumber("x is as it was ahead of z", other, 8);
        t.dueElements("x is as it was ahead of z", 0, -56, 8);
        t.x.clear();
        t.x.run(t.set(1, t.large(Long.MAX_VALUE)));
        t.x.run(t.set(2, t.filled(Tell.array(Tell.LONG), t.list(t.get(1)))));
        t.dueNumber("of long, going round", t.add(t.get(2), t.number(0), t.get(1)), -2);
    }

    private static void addFails() {
        Tell t = new Tell();
        int note = t.note(1, t.number(1));
        int zero = t.note(2, t.number(0));
        int nul = t.note(3, t.nul());
        t.x.run(t.set(0, t.array(Tell.array(Tell.INT), t.number(1))));
        int ints = t.get(0);
        int node = t.add(nul, zero, note);
        t.dueFail("NULL", node, 1, node);
        t.dueNotes("NULL: z is not worked", 3, 2);
        node = t.add(ints, note, note);
        t.dueFail("no such", node, 2, node);
        t.dueNotes("no such: z is not worked", 1);
        node = t.add(t.array(Tell.array(Tell.LEAF), t.number(1)), zero, note);
        t.dueFail("references", node, 9, node);
        t.dueNotes("references: z is not worked", 2);
        node = t.add(t.array(Tell.array2(Tell.INT), t.number(1)), note, note);
        t.dueFail("no such comes ahead of 9", node, 2, node);
        node = t.add(t.array(Tell.array(Tell.BOOLEAN), t.number(1)), zero, note);
        t.dueFail("boolean", node, 9, node);
        t.dueNotes("boolean: z is not worked", 2);
        node = t.add(ints, zero, nul);
        t.dueFail("z a reference", node, 9, node);
        t.dueNotes("z a reference", 2, 3);
        node = t.add(zero, zero, note);
        t.dueFail("x a number", node, 9, node);
        t.dueNotes("x a number", 2);
        node = t.add(nul, nul, note);
        t.dueFail("y a reference", node, 9, node);
        Check.due("nothing was added", t.x.element(0, 0), 0);
    }

    private static void step() {
        int[][] rows = {{Tell.BYTE, 127, -128}, {Tell.CHAR, 65535, 0}, {Tell.SHORT, 32767, -32768},
            {Tell.INT, BIG, Integer.MIN_VALUE}, {Tell.LONG, 5, 6}, {Tell.FLOAT, -1, 0},
            {Tell.DOUBLE, 7, 8}, {Tell.FLOAT, 16777216, 16777216}};
        for (int[] row : rows) {
            Tell t = new Tell();
            int made = t.filled(Tell.array(row[0]), t.list(t.number(3), t.number(row[1])));
            t.dueNumber("STEP of " + row[0], t.step(made, t.number(1)), row[1]);
            t.dueElements("STEP of " + row[0], 0, 3, row[2]);
        }
        Tell t = new Tell();
        int zero = t.number(0);
        dueWrongArrays(t, new int[] {t.step(t.nul(), zero), t.step(zero, zero),
            t.step(t.make(Tell.LEAF), zero)});
        int node = t.step(t.array(Tell.array(Tell.INT), zero), zero);
        t.dueFail("no such", node, 2, node);
        node = t.step(t.array(Tell.array(Tell.LEAF), zero), zero);
        t.dueFail("no such comes ahead of 9", node, 2, node);
        node = t.step(t.array(Tell.array(Tell.LEAF), t.number(1)), zero);
        t.dueFail("references", node, 9, node);
        node = t.step(t.array(Tell.array(Tell.BOOLEAN), t.number(1)), zero);
        t.dueFail("boolean", node, 9, node);
        node = t.step(t.nul(), t.nul());
        t.dueFail("y a reference", node, 9, node);
    }

    private static void copy() {
        Tell t = new Tell();
        int row = t.filled(Tell.array(Tell.FLOAT), t.list(t.number(8), t.number(-9)));
        t.x.run(t.set(0, row));
        t.dueThing("COPY", t.set(1, t.copy(t.get(0))), 1);
        t.dueElements("COPY", 1, 8, -9);
        Check.due("COPY: type", t.x.thing(1, 0), Tell.array(Tell.FLOAT));
        t.x.run(t.put(t.get(1), t.number(0), t.number(3)));
        t.dueElements("COPY is another one", 0, 8, -9);
        t.dueElements("COPY is changed", 1, 3, -9);
        int two = t.number(2);
        t.x.run(t.set(0, t.array(Tell.array2(Tell.INT), two, two)));
        t.dueThing("COPY of rows", t.copy(t.get(0)), 5);
        t.dueElements("the same rows", 5, 3, 4);
        Check.due("the same rows: THINGS", t.x.told(1), 6);
        dueWrongArrays(t, new int[] {t.copy(t.nul()), t.copy(two), t.copy(t.make(Tell.LEAF))});
        Tell s = new Tell();
        s.x.run(s.set(0, s.array(Tell.array(Tell.INT), s.number(2001))));
        int copy = s.copy(s.get(0));
        s.dueFail("no room", copy, 6, copy);
        Check.due("no room: ELEMENTS", s.x.told(2), 2001);
    }
}
