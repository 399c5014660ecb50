/** Promises 4 to 7: what a run answers, its value, where it FAILED, how many NODES it worked. */
public final class RunTest {
    public static void main(String[] args) {
        answers();
        outsideChangesNothing();
        where();
        worked();
        listsAreNotWorked();
        changesStayAfterFails();
        deepest();
        Check.end();
    }

    private static void answers() {
        Tell t = new Tell();
        t.dueNumber("NUMBER", t.number(-7), -7);
        t.dueNumber("NUMBER, least", t.number(Integer.MIN_VALUE), Integer.MIN_VALUE);
        t.dueNull("NULL", t.nul());
        t.dueThing("NEW", t.make(Tell.OBJECT), 0);
        t.dueThing("NEW, the next one", t.make(Tell.LEAF), 1);
        int fail = t.fail();
        t.dueFail("FAIL", fail, 7, fail);
        t.dueThing("a NODE is worked anew", 3, 2);
    }

    private static void outsideChangesNothing() {
        Tell t = new Tell();
        int note = t.note(4, t.number(12));
        t.dueNumber("a run", note, 12);
        for (int node : new int[] {-1, 2, 80, Integer.MIN_VALUE, Integer.MAX_VALUE}) {
            Check.due("run " + node, t.x.run(node), Tell.OUTSIDE);
        }
        Check.due("value stays", t.x.value(), 12);
        Check.due("worked stays", t.x.worked(), 2);
        t.dueNotes("notes stay", 4);
        int fail = t.fail();
        t.dueFail("FAIL", fail, 7, fail);
        Check.due("run beyond", t.x.run(fail + 1), Tell.OUTSIDE);
        Check.due("where stays", t.x.where(), fail);
    }

    private static void where() {
        Tell t = new Tell();
        int zero = t.number(0);
        int over = t.over(zero, zero);
        int plus = t.plus(zero, over);
        t.dueFail("innermost", t.set(0, plus), 8, over);
        int caught = t.taken(plus, zero, 1);
        t.dueNumber("taken", caught, 0);
        Check.due("taken: number", t.x.get(1), 8);
        int fail = t.fail();
        t.dueFail("what stands in for it FAILS", t.taken(plus, fail, 1), 7, fail);
        int after = t.then(caught, fail);
        t.dueFail("another one behind it", after, 7, fail);
        int wrong = t.plus(zero, t.nul());
        t.dueFail("where a number is wanted", wrong, 9, wrong);
        t.dueNumber("NONE again", zero, 0);
    }

    private static void worked() {
        Tell t = new Tell();
        int one = t.number(1);
        t.dueNumber("NUMBER", one, 1);
        Check.due("worked 1", t.x.worked(), 1);
        int sum = t.plus(one, one);
        t.dueNumber("PLUS", t.plus(sum, sum), 4);
        Check.due("worked 7", t.x.worked(), 7);
        t.dueNumber("IF", t.either(one, one, sum), 1);
        Check.due("IF works one of both", t.x.worked(), 3);
        int list = t.list(one, sum);
        t.dueThing("FILLED", t.filled(Tell.array(Tell.INT), list), 0);
        Check.due("LISTS do not count", t.x.worked(), 5);
        int fail = t.fail();
        t.dueFail("FAIL first", t.plus(fail, sum), 7, fail);
        Check.due("what comes behind is not worked", t.x.worked(), 2);
    }

    private static void listsAreNotWorked() {
        Tell t = new Tell();
        int list = t.list(t.number(1));
        t.dueFail("a LIST", list, 9, list);
        Check.due("worked", t.x.worked(), 0);
        t.dueFail("a LIST as a part", t.set(0, list), 9, list);
        Check.due("worked, as a part", t.x.worked(), 1);
        t.dueFail("a LIST in a LIST", t.filled(Tell.array(Tell.INT), t.list(list)), 9, list);
        t.dueNumber("taken", t.taken(list, t.number(5), 1), 5);
        Check.due("taken: number", t.x.get(1), 9);
    }

    private static void changesStayAfterFails() {
        Tell t = new Tell();
        int made = t.set(0, t.array(Tell.array(Tell.INT), t.number(2)));
        int put = t.put(made, t.number(1), t.number(5));
        int fail = t.fail();
        t.dueFail("FAILS at last", t.then(t.note(1, put), fail), 7, fail);
        Check.due("THINGS stay", t.x.told(1), 1);
        Check.due("VARIABLES stay", t.x.has(0), 2);
        Check.due("ELEMENTS stay", t.x.element(0, 1), 5);
        t.dueNotes("notes stay", 1);
    }

    private static void deepest() {
        Tell t = new Tell();
        int node = t.number(1);
        for (int i = 1; i < 80; i++) {
            node = t.set(i % 8, node);
        }
        t.dueNumber("80 levels", node, 1);
        Check.due("80 levels: worked", t.x.worked(), 80);
    }
}
