/** Promises 4 to 7: what a run answers, its value, where it FAILED, how many NODES it worked. */
public final class RunTest {
    public static void main(String[] args) {
        answers();
        outsideChangesNothing();
        where();
        worked();
        listsAreNotWorked();
        mostWorked();
        mostWorkedIsNotTaken();
        mostTaken();
        changesStayAfterFails();
        deepest();
        Check.end();
    }

    private static void answers() {
        Tell t = new Tell();
        t.dueNumber("NUMBER", t.number(-7), -7);
        t.dueNumber("NUMBER, least", t.number(Integer.MIN_VALUE), Integer.MIN_VALUE);
        t.dueNull("NULL", t.nul());
        t.dueThing("NEW", t.make(Tell.OBJECT), 0);
        t.dueThing("NEW, the next one", t.make(Tell.LEAF), 1);
        int fail = t.fail();
        t.dueFail("FAIL", fail, 7, fail);
        t.dueThing("a NODE is worked anew", 3, 2);
    }

    private static void outsideChangesNothing() {
        Tell t = new Tell();
        int note = t.note(4, t.number(12));
        t.dueNumber("a run", note, 12);
        for (int node : new int[] {-1, 2, 80, Integer.MIN_VALUE, Integer.MAX_VALUE}) {
            Check.due("run " + node, t.x.run(node), Tell.OUTSIDE);
        }
        Check.due("value stays", t.x.value(), 12);
        Check.due("worked stays", t.x.worked(), 2);
        t.dueNotes("notes stay", 4);
        int fail = t.fail();
        t.dueFail("FAIL", fail, 7, fail);
        Check.due("run beyond", t.x.run(fail + 1), Tell.OUTSIDE);
        Check.due("where stays", t.x.where(), fail);
    }

    private static void where() {
        Tell t = new Tell();
        int zero = t.number(0);
        int over = t.over(zero, zero);
        int plus = t.plus(zero, over);
        t.dueFail("innermost", t.set(0, plus), 8, over);
        int caught = t.taken(plus, zero, 1);
        t.dueNumber("taken", caught, 0);
        Check.due("taken: number", t.x.get(1), 8);
        int fail = t.fail();
        t.dueFail("what stands in for it FAILS", t.taken(plus, fail, 1), 7, fail);
        int after = t.then(caught, fail);
        t.dueFail("another one behind it", after, 7, fail);
        int wrong = t.plus(zero, t.nul());
        t.dueFail("where a number is wanted", wrong, 9, wrong);
        t.dueNumber("NONE again", zero, 0);
    }

    private static void worked() {
        Tell t = new Tell();
        int one = t.number(1);
        t.dueNumber("NUMBER", one, 1);
        Check.due("worked 1", t.x.worked(), 1);
        int sum = t.plus(one, one);
        t.dueNumber("PLUS", t.plus(sum, sum), 4);
        Check.due("worked 7", t.x.worked(), 7);
        t.dueNumber("IF", t.either(one, one, sum), 1);
        Check.due("IF works one of both", t.x.worked(), 3);
        int list = t.list(one, sum);
        t.dueThing("FILLED", t.filled(Tell.array(Tell.INT), list), 0);
        Check.due("LISTS do not count", t.x.worked(), 5);
        int fail = t.fail();
        t.dueFail("FAIL first", t.plus(fail, sum), 7, fail);
        Check.due("what comes behind is not worked", t.x.worked(), 2);
    }

    private static void listsAreNotWorked() {
        Tell t = new Tell();
        int list = t.list(t.number(1));
        t.dueFail("a LIST", list, 9, list);
        Check.due("worked", t.x.worked(), 0);
        t.dueFail("a LIST as a part", t.set(0, list), 9, list);
        Check.due("worked, as a part", t.x.worked(), 1);
        t.dueFail("a LIST in a LIST", t.filled(Tell.array(Tell.INT), t.list(list)), 9, list);
        t.dueNumber("taken", t.taken(list, t.number(5), 1), 5);
        Check.due("taken: number", t.x.get(1), 9);
    }

    /** An EACH that works 3 + 2 * size NODES: EACH, MAKE, NUMBER, and NOTE, NUMBER each time. */
    private static int loop(Tell t, int size) {
        return t.each(t.array(Tell.array(Tell.BYTE), t.number(size)), 0, t.note(1, t.number(6)));
    }

    private static void mostWorked() {
        Tell t = new Tell();
        int loop = loop(t, 1498);
        t.dueNumber("2999 NODES", loop, 1498);
        Check.due("2999 worked", t.x.worked(), 2999);
        int exact = t.note(3, loop);
        t.dueNumber("3000 NODES", exact, 1498);
        Check.due("3000 worked", t.x.worked(), 3000);
        int behind = t.number(1);
        Tell s = new Tell();
        int more = s.then(loop(s, 1498), s.number(8));
        s.dueFail("3001 NODES", more, 10, more - 1);
        Check.due("3001: worked", s.x.worked(), 3000);
        Check.due("3001: notes", s.x.notes(), 1498);
        s.dueNumber("the next run counts anew", more - 1, 8);
        t.dueNumber("the next run counts anew, too", behind, 1);
        Tell r = new Tell();
        int list = r.list(r.number(1));
        int then = r.then(r.note(3, loop(r, 1497)), list);
        r.dueFail("a LIST is not the next one", then, 9, list);
        Check.due("a LIST: worked", r.x.worked(), 2999);
    }

    private static void mostWorkedIsNotTaken() {
        Tell t = new Tell();
        int loop = loop(t, 1499);
        int caught = t.taken(loop, t.number(1), 2);
        t.dueFail("not taken", caught, 10, loop - 1);
        Check.due("not taken: VARIABLE", t.x.get(2), 0);
        Check.due("not taken: worked", t.x.worked(), 3000);
    }

    private static void mostTaken() {
        Tell t = new Tell();
        int fail = t.fail();
        int caught = t.taken(fail, t.number(3), 1);
        int forty = t.each(t.array(Tell.array(Tell.BYTE), t.number(40)), 0, caught);
        t.dueNumber("40 taken", forty, 40);
        t.dueNumber("40 taken in the next run", forty, 40);
        int another = t.taken(t.over(fail, fail), t.number(5), 2);
        int more = t.then(forty, another);
        t.dueFail("41 taken", more, 10, another);
        Check.due("41: VARIABLE", t.x.get(2), 0);
        t.dueNumber("one that does not FAIL", t.then(forty, t.taken(t.number(9), fail, 2)), 9);
        int outer = t.taken(more, t.number(5), 3);
        t.dueFail("not taken further out", outer, 10, another);
        Check.due("not taken further out: VARIABLE", t.x.get(3), 0);
    }

    private static void changesStayAfterFails() {
        Tell t = new Tell();
        int made = t.set(0, t.array(Tell.array(Tell.INT), t.number(2)));
        int put = t.put(made, t.number(1), t.number(5));
        int fail = t.fail();
        t.dueFail("FAILS at last", t.then(t.note(1, put), fail), 7, fail);
        Check.due("THINGS stay", t.x.told(1), 1);
        Check.due("VARIABLES stay", t.x.has(0), 2);
        Check.due("ELEMENTS stay", t.x.element(0, 1), 5);
        t.dueNotes("notes stay", 1);
    }

    private static void deepest() {
        Tell t = new Tell();
        int node = t.number(1);
        for (int i = 1; i < 80; i++) {
            node = t.set(i % 8, node);
        }
        t.dueNumber("80 levels", node, 1);
        Check.due("80 levels: worked", t.x.worked(), 80);
    }
}
