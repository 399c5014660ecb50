/** Promises 1, 3, 8, 9, 10, 11 and 16: what an object holds, and what stays. */
public final class StateTest {
    public static void main(String[] args) {
        newObject();
        clearForgetsNodesAlone();
        notesOfTheLatestRun();
        variables();
        toldCounts();
        objectsAreApart();
        Check.end();
    }

    private static void newObject() {
        ArrayRules x = new ArrayRules();
        Check.due("new: nodes", x.told(0), 0);
        Check.due("new: things", x.told(1), 0);
        Check.due("new: elements", x.told(2), 0);
        Check.due("new: value", x.value(), 0);
        Check.due("new: where", x.where(), Tell.NONE);
        Check.due("new: worked", x.worked(), 0);
        Check.due("new: notes", x.notes(), 0);
        Check.due("new: note", x.note(0), Tell.OUTSIDE);
        Check.due("new: thing", x.thing(0, 0), Tell.OUTSIDE);
        for (int v = 0; v < 8; v++) {
            Check.due("new: has " + v, x.has(v), 0);
            Check.due("new: get " + v, x.get(v), 0);
        }
        Check.due("new: clear", x.clear(), 0);
        Check.due("new: run", x.run(0), Tell.OUTSIDE);
    }

    private static void clearForgetsNodesAlone() {
        Tell t = new Tell();
        int made = t.array(Tell.array(Tell.INT), t.number(3));
        int last = t.note(9, t.set(2, made));
        t.dueThing("clear: ahead", last, 0);
        int worked = t.x.worked();
        Check.due("clear", t.x.clear(), 4);
        Check.due("clear: nodes", t.x.told(0), 0);
        Check.due("clear again", t.x.clear(), 0);
        Check.due("clear: things", t.x.told(1), 1);
        Check.due("clear: elements", t.x.told(2), 3);
        Check.due("clear: variable", t.x.get(2), 0);
        Check.due("clear: its kind", t.x.has(2), 2);
        Check.due("clear: notes", t.x.notes(), 1);
        Check.due("clear: note", t.x.note(0), 9);
        Check.due("clear: worked", t.x.worked(), worked);
        Check.due("clear: run", t.x.run(0), Tell.OUTSIDE);
        Check.due("clear: no part", t.x.node(12, 0, 0, 0, 0), Tell.OUTSIDE);
        Check.due("clear: the first one again", t.x.node(0, 5, 0, 0, 0), 0);
        t.dueNumber("clear: a new NODE", 0, 5);
    }

    private static void notesOfTheLatestRun() {
        Tell t = new Tell();
        int one = t.note(-5, t.number(1));
        int two = t.note(6, one);
        t.dueNumber("notes", two, 1);
        t.dueNotes("notes", 6, -5);
        Check.due("note below", t.x.note(-1), Tell.OUTSIDE);
        Check.due("note beyond", t.x.note(2), Tell.OUTSIDE);
        t.dueNumber("notes of the next run", one, 1);
        t.dueNotes("notes of the next run", -5);
        Check.due("the earlier run's note", t.x.note(1), Tell.OUTSIDE);
        Check.due("a run that is none", t.x.run(99), Tell.OUTSIDE);
        t.dueNotes("a run that is none", -5);
        t.dueNumber("a run without", 0, 1);
        t.dueNotes("a run without");
        int fails = t.note(1, t.fail());
        t.dueFail("noted ahead of y", fails, 7, fails - 1);
        t.dueNotes("noted ahead of y", 1);
    }

    private static void variables() {
        Tell t = new Tell();
        t.x.run(t.set(0, t.number(-3)));
        t.x.run(t.set(7, t.nul()));
        t.x.run(t.make(Tell.LEAF));
        t.x.run(t.set(3, t.make(Tell.ROOT)));
        Check.due("has a number", t.x.has(0), 0);
        Check.due("get a number", t.x.get(0), -3);
        Check.due("has NULL", t.x.has(7), 1);
        Check.due("get NULL", t.x.get(7), Tell.NONE);
        Check.due("has a THING", t.x.has(3), 2);
        Check.due("get a THING", t.x.get(3), 1);
        for (int v : new int[] {-1, 8, Integer.MIN_VALUE, Integer.MAX_VALUE}) {
            Check.due("has " + v, t.x.has(v), Tell.OUTSIDE);
            Check.due("get " + v, t.x.get(v), 0);
        }
        t.dueNumber("GET a number", t.get(0), -3);
        t.dueNull("GET NULL", t.get(7));
        t.dueThing("GET a THING", t.get(3), 1);
        t.dueNumber("SET comes to its VALUE", t.plus(t.set(1, t.number(4)), t.get(1)), 8);
        int failing = t.set(1, t.fail());
        t.dueFail("SET that FAILS", failing, 7, failing - 1);
        Check.due("SET that FAILS: stays", t.x.get(1), 4);
    }

    private static void toldCounts() {
        Tell t = new Tell();
        int three = t.number(3);
        Check.due("told nodes", t.x.told(0), 1);
        t.x.run(t.array(Tell.array2(Tell.LONG), three, three));
        t.x.run(t.make(Tell.OBJECT));
        Check.due("told nodes later", t.x.told(0), 3);
        Check.due("told things", t.x.told(1), 5);
        Check.due("told elements", t.x.told(2), 12);
        for (int what : new int[] {-1, 3, Integer.MIN_VALUE, Integer.MAX_VALUE}) {
            Check.due("told " + what, t.x.told(what), Tell.OUTSIDE);
        }
    }

    private static void objectsAreApart() {
        Tell one = new Tell();
        Tell two = new Tell();
        one.x.run(one.note(1, one.set(0, one.array(Tell.array(Tell.INT), one.number(2)))));
        Check.due("apart: nodes", two.x.told(0), 0);
        Check.due("apart: things", two.x.told(1), 0);
        Check.due("apart: has", two.x.has(0), 0);
        Check.due("apart: notes", two.x.notes(), 0);
    }
}
