import java.util.Arrays;

/** EACH, VARIED and MOVE. */
public final class LoopsTest {
    public static void main(String[] args) {
        each();
        eachFails();
        varied();
        variedStays();
        variedFails();
        variedWithinVaried();
        variedDeepest();
        variedAfterManyFails();
        move();
        moveWithinOne();
        moveOfReferences();
        moveFails();
        moveWorksAllFirst();
        Check.end();
    }

    private static int ints(Tell t, int... numbers) {
        int[] nodes = new int[numbers.length];
        for (int i = 0; i < numbers.length; i++) {
            nodes[i] = t.number(numbers[i]);
        }
        return t.filled(Tell.array(Tell.INT), t.list(nodes));
    }

    private static void each() {
        Tell t = new Tell();
        t.x.run(t.set(0, ints(t, 4, 5, 6)));
        int get = t.get(0);
        int sum = t.set(2, t.plus(t.get(1), t.get(2)));
        t.dueNumber("EACH", t.each(get, 1, sum), 3);
        Check.due("EACH: the sum", t.x.get(2), 15);
        Check.due("EACH: the last one stays", t.x.get(1), 6);
        int ahead = t.put(get, t.number(2), t.number(9));
        t.dueNumber("as it is then", t.each(get, 1, ahead), 3);
        Check.due("as it is then", t.x.get(1), 9);
        int gone = t.each(get, 0, t.note(1, t.get(0)));
        t.dueNumber("the ARRAY's VARIABLE", gone, 3);
        t.dueNotes("the ARRAY's VARIABLE", 1, 1, 1);
        Check.due("the ARRAY's VARIABLE becomes it", t.x.get(0), 9);
        t.x.run(t.set(5, t.number(77)));
        int none = t.each(t.filled(Tell.array(Tell.INT), Tell.NONE), 5, t.fail());
        t.dueNumber("EACH of none", none, 0);
        Check.due("EACH of none: VARIABLE stays", t.x.get(5), 77);
        int things = t.list(t.make(Tell.LEAF), t.nul());
        t.dueNumber("of references", t.each(t.filled(Tell.array(Tell.NAMED), things), 5, none), 2);
        Check.due("of references", t.x.has(5), 1);
    }

    private static void eachFails() {
        Tell t = new Tell();
        int note = t.note(1, t.number(1));
        int node = t.each(t.nul(), 3, note);
        t.dueFail("NULL", node, 1, node);
        t.dueNotes("NULL");
        node = t.each(note, 3, note);
        t.dueFail("a number", node, 9, node);
        node = t.each(t.make(Tell.LEAF), 3, note);
        t.dueFail("an INSTANCE", node, 9, node);
        int fail = t.fail();
        node = t.each(ints(t, 8, 9), 3, fail);
        t.dueFail("z FAILS", node, 7, fail);
        Check.due("z FAILS: VARIABLE", t.x.get(3), 8);
        int until = t.each(ints(t, 1, 0, 2), 3, t.over(t.note(5, t.number(6)), t.get(3)));
        Check.due("FAILS in the middle", t.x.run(until), Tell.failed(8));
        t.dueNotes("FAILS in the middle", 5, 5);
    }

    private static void varied() {
        Tell t = new Tell();
        int one = t.note(1, t.number(1));
        int two = t.note(2, t.number(258));
        int type = Tell.array(Tell.BYTE);
        t.dueThing("VARIED of none", t.varied(type, Tell.NONE), 0);
        Check.due("VARIED of none", t.x.thing(0, 1), 0);
        t.dueThing("VARIED of one number", t.varied(type, t.list(one)), 1);
        t.dueElements("VARIED of one number", 1, 1);
        t.dueThing("VARIED of two", t.varied(type, t.list(one, two)), 2);
        t.dueNotes("VARIED of two", 1, 2);
        t.dueElements("VARIED of two, cut", 2, 1, 2);
        Check.due("VARIED: type", t.x.thing(2, 0), type);
        int leaf = t.make(Tell.LEAF);
        t.dueThing("they are worked ahead of it", t.varied(Tell.array(Tell.ROOT), t.list(leaf, leaf)), 5);
        t.dueElements("they are worked ahead of it", 5, 3, 4);
        int nulls = t.list(t.nul(), t.nul());
        t.dueThing("two NULLS", t.varied(Tell.array(Tell.ROOT), nulls), 6);
        t.dueElements("two NULLS", 6, Tell.NONE, Tell.NONE);
    }

    private static void variedStays() {
        Tell t = new Tell();
        t.dueNull("NULL", t.varied(Tell.array(Tell.INT), t.list(t.nul())));
        t.x.run(t.set(0, ints(t, 3)));
        t.x.run(t.set(1, t.array(Tell.array(Tell.LEAF), t.number(2))));
        int row = t.list(t.get(0));
        int leaves = t.list(t.get(1));
        t.dueThing("an ARRAY of the type", t.varied(Tell.array(Tell.INT), row), 0);
        t.dueThing("a SUB one", t.varied(Tell.array(Tell.NAMED), leaves), 1);
        Check.due("no ARRAY was made", t.x.told(1), 2);
        t.dueThing("int[] is no OBJECT[]", t.varied(Tell.array(Tell.OBJECT), row), 2);
        t.dueElements("int[] within OBJECT[]", 2, 0);
        t.dueThing("LEAF[] is OBJECT[]", t.varied(Tell.array(Tell.OBJECT), leaves), 1);
        t.dueThing("int[] in int[][]", t.varied(Tell.array2(Tell.INT), row), 3);
        t.dueElements("int[] in int[][]", 3, 0);
        int both = t.list(t.get(1), t.get(1));
        t.dueThing("two of them", t.varied(Tell.array(Tell.OBJECT), both), 4);
        t.dueElements("two of them", 4, 1, 1);
    }

    private static void variedFails() {
        Tell t = new Tell();
        int one = t.note(1, t.number(1));
        int root = t.note(2, t.make(Tell.ROOT));
        int fail = t.fail();
        t.dueFail("one of them FAILS", t.varied(Tell.array(Tell.INT), t.list(one, fail, one)), 7, fail);
        t.dueNotes("one of them FAILS", 1);
        Check.due("nothing was made", t.x.told(1), 0);
        int node = t.varied(Tell.array(Tell.INT), t.list(one, t.nul(), one));
        t.dueFail("a reference among numbers", node, 9, node);
        t.dueNotes("all are worked first", 1, 1);
        t.dueElements("those ahead stand there", 0, 1, 0, 0);
        node = t.varied(Tell.array(Tell.LEAF), t.list(root));
        t.dueFail("not SUB", node, 3, node);
        Check.due("not SUB: THINGS", t.x.told(1), 3);
        node = t.varied(Tell.array(Tell.LEAF), t.list(one, root));
        t.dueFail("a number among references", node, 9, node);
        t.x.run(t.array(Tell.array(Tell.BYTE), t.number(4000 - t.x.told(2))));
        node = t.varied(Tell.array(Tell.INT), t.list(one, root));
        t.dueFail("no room", node, 6, node);
        t.dueNotes("no room: all are worked", 1, 2);
    }

    private static void variedWithinVaried() {
        Tell t = new Tell();
        int inner = t.varied(Tell.array(Tell.INT), t.list(t.number(3), t.number(4)));
        int failing = t.varied(Tell.array(Tell.INT), t.list(t.number(5), t.fail()));
        int caught = t.taken(failing, t.nul(), 0);
        int list = t.list(t.make(Tell.LEAF), inner, caught, t.make(Tell.ROOT), inner);
        t.dueThing("VARIED within", t.varied(Tell.array(Tell.OBJECT), list), 4);
        t.dueElements("VARIED within", 4, 0, 1, Tell.NONE, 2, 3);
        t.dueElements("the inner one", 3, 3, 4);
        t.dueThing("again", t.varied(Tell.array(Tell.OBJECT), list), 9);
        t.dueElements("again", 9, 5, 6, Tell.NONE, 7, 8);
    }

    /** Some 20 of them are open at once, each of which holds some 38 VALUES. */
    private static void variedDeepest() {
        Tell t = new Tell();
        int nul = t.nul();
        int[] nulls = new int[38];
        Arrays.fill(nulls, nul);
        int begin = t.list(nulls);
        int node = nul;
        for (int i = 0; i < 20; i++) {
            int list = t.x.node(10, begin, node, 0, 0);
            node = t.x.node(22, Tell.array(Tell.OBJECT), list, 0, 0);
        }
        t.dueThing("20 VARIED", node, 19);
        Check.due("20 VARIED: worked", t.x.worked(), 20 * 39 + 1);
        for (int thing = 0; thing < 20; thing++) {
            for (int i = 0; i < 38; i++) {
                Check.due("20 VARIED: NULL", t.x.element(thing, i), Tell.NONE);
            }
            Check.due("20 VARIED: the one within", t.x.element(thing, 38), thing - 1);
        }
    }

    /** What a VARIED held when it FAILED is let go. */
    private static void variedAfterManyFails() {
        Tell t = new Tell();
        int[] ones = new int[40];
        Arrays.fill(ones, t.number(1));
        int list = t.list(ones);
        int failing = t.varied(Tell.array(Tell.INT), t.x.node(10, list, t.fail(), 0, 0));
        int caught = t.taken(failing, t.number(0), 0);
        int loop = t.each(t.array(Tell.array(Tell.INT), t.number(40)), 1, caught);
        for (int i = 0; i < 50; i++) {
            Check.due("a VARIED that FAILS", t.x.run(failing), Tell.failed(7));
        }
        int good = t.varied(Tell.array(Tell.INT), list);
        t.dueThing("a VARIED after many FAILED", good, 0);
        t.dueThing("a VARIED after many were taken", t.then(loop, good), 2);
        for (int i = 0; i < 40; i++) {
            Check.due("ELEMENT", t.x.element(0, i), 1);
            Check.due("ELEMENT", t.x.element(2, i), 1);
        }
    }

    private static void move() {
        Tell t = new Tell();
        t.x.run(t.set(0, ints(t, 1, 2, 3, 4)));
        t.x.run(t.set(1, ints(t, 5, 6, 7)));
        int one = t.number(1);
        int two = t.number(2);
        int zero = t.number(0);
        t.dueNumber("MOVE", t.move(t.get(0), one, t.get(1), zero, two), 2);
        t.dueElements("MOVE", 1, 2, 3, 7);
        t.dueElements("MOVE: it stays", 0, 1, 2, 3, 4);
        t.dueNumber("MOVE none", t.move(t.get(0), t.number(4), t.get(1), t.number(3), zero), 0);
        t.dueElements("MOVE none", 1, 2, 3, 7);
        t.x.clear();
        int reals = t.filled(Tell.array(Tell.DOUBLE), t.list(t.number(8), t.number(9)));
        t.x.run(t.set(0, reals));
        t.x.run(t.set(1, t.array(Tell.array(Tell.DOUBLE), t.number(2))));
        t.dueNumber("of doubles", t.move(t.get(0), t.number(0), t.get(1), t.number(1), t.number(1)), 1);
        t.dueElements("of doubles", 3, 0, 8);
    }

    private static void moveWithinOne() {
        int[][] rows = {{0, 1, 4, 1, 1, 2, 3, 4}, {1, 0, 4, 2, 3, 4, 5, 5}, {2, 2, 2, 1, 2, 3, 4, 5},
            {0, 3, 2, 1, 2, 3, 1, 2}};
        for (int[] row : rows) {
            Tell t = new Tell();
            int array = t.set(0, ints(t, 1, 2, 3, 4, 5));
            int span = t.number(row[2]);
            t.dueNumber("MOVE within one", t.move(array, t.number(row[0]), t.get(0), t.number(row[1]), span),
                    row[2]);
            t.dueElements("MOVE within one", 0, row[3], row[4], row[5], row[6], row[7]);
        }
        Tell t = new Tell();
        int things = t.list(t.make(Tell.LEAF), t.nul(), t.make(Tell.ROOT));
        int array = t.set(0, t.filled(Tell.array(Tell.OBJECT), things));
        t.dueNumber("of references", t.move(array, t.number(0), t.get(0), t.number(1), t.number(2)), 2);
        t.dueElements("of references", 0, 1, 1, Tell.NONE);
    }

    private static void moveOfReferences() {
        Tell t = new Tell();
        int things = t.list(t.make(Tell.LEAF), t.nul(), t.make(Tell.ROOT), t.make(Tell.LEAF));
        t.x.run(t.set(0, t.filled(Tell.array(Tell.OBJECT), things)));
        t.x.run(t.set(1, t.array(Tell.array(Tell.LEAF), t.number(4))));
        int leaves = (int) t.x.get(1);
        int zero = t.number(0);
        int node = t.move(t.get(0), zero, t.get(1), zero, t.number(4));
        t.dueFail("not SUB", node, 3, node);
        t.dueElements("those before it stand there", leaves, 1, Tell.NONE, Tell.NONE, Tell.NONE);
        t.dueNumber("LEAF alone", t.move(t.get(0), zero, t.get(1), t.number(2), t.number(2)), 2);
        t.dueElements("LEAF alone", leaves, 1, Tell.NONE, 1, Tell.NONE);
        t.dueNumber("to a wider type", t.move(t.get(1), zero, t.get(0), zero, t.number(4)), 4);
        t.dueElements("to a wider type", 0, 1, Tell.NONE, 1, Tell.NONE);
        t.x.run(t.set(2, t.array(Tell.array2(Tell.INT), t.number(1))));
        t.dueNumber("NULL may stand anywhere", t.move(t.get(0), t.number(1), t.get(2), zero, t.number(1)), 1);
        node = t.move(t.get(0), zero, t.get(2), zero, t.number(1));
        t.dueFail("a LEAF is no int[]", node, 3, node);
    }

    private static void moveFails() {
        Tell t = new Tell();
        t.x.run(t.set(0, t.array(Tell.array(Tell.INT), t.number(3))));
        t.x.run(t.set(1, t.array(Tell.array(Tell.LONG), t.number(3))));
        t.x.run(t.set(2, t.array(Tell.array(Tell.LEAF), t.number(3))));
        t.x.run(t.set(3, t.nul()));
        t.x.run(t.set(4, t.make(Tell.LEAF)));
        int[][] rows = {
            {3, 0, 0, 0, 1, 1}, {0, 0, 3, 0, 1, 1}, {3, -1, 3, 0, 1, 1}, {0, -1, 3, 9, 9, 1},
            {0, 0, 1, 0, 1, 3}, {0, 0, 2, 0, 1, 3}, {2, 0, 0, 0, 1, 3}, {0, -1, 1, 0, 1, 3},
            {0, 0, 2, 0, 0, 3}, {0, -1, 0, 0, 1, 2}, {0, 0, 0, -1, 1, 2}, {0, 0, 0, 0, -1, 2},
            {0, 1, 0, 0, 3, 2}, {0, 0, 0, 1, 3, 2}, {0, 4, 0, 0, 0, 2}, {0, 0, 0, 4, 0, 2},
            {0, Integer.MAX_VALUE, 0, 0, 1, 2}, {0, 1, 0, 0, Integer.MAX_VALUE, 2},
            {0, 0, 0, Integer.MAX_VALUE, Integer.MAX_VALUE, 2}, {2, 0, 2, 0, 4, 2},
            {4, 0, 0, 0, 1, 9}, {0, 0, 4, 0, 1, 9},
        };
        for (int[] row : rows) {
            t.x.clear();
            int node = t.move(t.get(row[0]), t.number(row[1]), t.get(row[2]), t.number(row[3]),
                    t.number(row[4]));
            t.dueFail("MOVE " + Arrays.toString(row), node, row[5], node);
        }
        t.x.clear();
        t.x.run(t.set(5, t.large((1L << 32) + 1)));
        t.dueNumber("cut to int", t.move(t.get(0), t.get(5), t.get(0), t.get(5), t.get(5)), 1);
    }

    private static void moveWorksAllFirst() {
        Tell t = new Tell();
        int nul = t.note(1, t.nul());
        int zero = t.note(2, t.number(0));
        int one = t.note(3, t.number(1));
        int node = t.move(nul, zero, nul, one, zero);
        t.dueFail("all are worked", node, 1, node);
        t.dueNotes("all are worked", 1, 2, 1, 3, 2);
        Check.due("all are worked", t.x.worked(), 11);
        node = t.move(zero, zero, nul, one, zero);
        t.dueFail("x a number", node, 9, node);
        t.dueNotes("x a number", 2);
        node = t.move(nul, nul, nul, one, zero);
        t.dueFail("y a reference", node, 9, node);
        t.dueNotes("y a reference", 1, 1);
        node = t.move(nul, zero, one, one, zero);
        t.dueFail("z a number", node, 9, node);
        t.dueNotes("z a number", 1, 2, 3);
        node = t.move(nul, zero, nul, nul, zero);
        t.dueFail("p a reference", node, 9, node);
        t.dueNotes("p a reference", 1, 2, 1, 1);
        node = t.move(nul, zero, nul, zero, nul);
        t.dueFail("n a reference", node, 9, node);
        t.dueNotes("n a reference", 1, 2, 1, 2, 1);
    }
}
