import java.util.ArrayList;
import java.util.List;

/**
 * Every CODE on objects that were used before: behind clear(), behind runs that FAILED, with
 * THINGS and VARIABLES of earlier runs, up to the 512th call.
 */
public final class LaterTest {
    private static final int INTS = Tell.array(Tell.INT);

    /** Tells NODES, and answers the one that is to be run. */
    private interface Told {
        int by(Tell t);
    }

    public static void main(String[] args) {
        List<Told> expressions = expressions();
        for (int i = 0; i < expressions.size(); i++) {
            behindEachUse("expression " + i, expressions.get(i));
        }
        clearedNodesAreNone();
        clearedListsAreNone();
        eightyAgain();
        theLatestRunStaysBehindClear();
        whatFailedStaysBehindClear();
        aFailLeavesWhatItDid();
        openVariedIsForgotten();
        thingsOfEarlierRuns();
        variablesOfEarlierRuns();
        realsOfEarlierRuns();
        roomIsThatOfAllRuns();
        theLastCalls();
        Check.end();
    }

    /** One expression of each CODE, and one of each way to FAIL. */
    private static List<Told> expressions() {
        List<Told> all = new ArrayList<>();
        all.add(t -> t.number(-9));
        all.add(t -> t.nul());
        all.add(t -> t.get(3));
        all.add(t -> t.set(1, t.number(6)));
        all.add(t -> t.note(5, t.note(-6, t.nul())));
        all.add(t -> t.fail());
        all.add(t -> t.plus(t.get(1), t.number(4)));
        all.add(t -> t.over(t.get(1), t.number(0)));
        all.add(t -> t.make(Tell.LEAF));
        all.add(t -> t.array(Tell.array3(Tell.ROOT), t.number(2), t.number(1), t.number(2)));
        all.add(t -> t.array(INTS, t.note(1, t.number(-1))));
        all.add(t -> t.array(INTS, t.number(4001)));
        all.add(t -> t.list(t.number(1)));
        all.add(t -> t.filled(Tell.array(Tell.OBJECT), t.list(t.make(Tell.ROOT), t.nul(), t.make(Tell.LEAF))));
        all.add(t -> t.filled(Tell.array(Tell.LEAF), t.list(t.make(Tell.LEAF), t.make(Tell.ROOT))));
        all.add(t -> t.length(threeInts(t)));
        all.add(t -> t.at(threeInts(t), t.number(2)));
        all.add(t -> t.at(threeInts(t), t.number(3)));
        all.add(t -> t.put(t.nul(), t.number(0), t.note(2, t.number(0))));
        all.add(t -> t.put(threeInts(t), t.number(0), t.number(-8)));
        all.add(t -> t.add(threeInts(t), t.number(1), t.note(2, t.number(70))));
        all.add(t -> t.step(threeInts(t), t.number(1)));
        all.add(t -> t.copy(threeInts(t)));
        all.add(t -> t.cast(Tell.CHAR, t.number(-1)));
        all.add(t -> t.cast(Tell.LEAF, t.make(Tell.ROOT)));
        all.add(t -> t.is(Tell.NAMED, t.make(Tell.ROOT)));
        all.add(t -> t.same(t.make(Tell.ROOT), t.make(Tell.ROOT)));
        all.add(t -> t.each(threeInts(t), 4, t.note(1, t.get(4))));
        all.add(t -> t.varied(Tell.array(Tell.DOUBLE), t.list(t.number(8), t.get(2))));
        all.add(t -> t.varied(INTS, t.list(threeInts(t))));
        all.add(t -> t.varied(INTS, t.list(t.number(1), t.note(1, t.fail()))));
        all.add(t -> t.then(t.set(0, t.number(1)), t.get(0)));
        all.add(t -> t.either(t.get(1), t.note(1, t.nul()), t.note(2, t.nul())));
        all.add(LaterTest::fortyTaken);
        all.add(t -> t.then(fortyTaken(t), t.taken(t.fail(), t.number(2), 1)));
        all.add(t -> t.move(t.set(0, threeInts(t)), t.number(0), t.get(0), t.number(1), t.number(2)));
        all.add(t -> t.each(t.array(INTS, t.number(1498)), 0, t.then(t.nul(), t.nul())));
        all.add(t -> t.each(t.array(INTS, t.number(999)), 0, t.then(t.nul(), t.nul())));
        return all;
    }

    private static int threeInts(Tell t) {
        return t.filled(INTS, t.list(t.number(11), t.number(12), t.number(13)));
    }

    private static int fortyTaken(Tell t) {
        return t.each(t.array(INTS, t.number(40)), 0, t.taken(t.fail(), t.number(2), 1));
    }

    /** "What they note, make and change stays", and no more of it is in the next run. */
    private static void behindEachUse(String what, Told expression) {
        Tell fresh = new Tell();
        giveVariables(fresh);
        long[] want = answers(fresh, expression);
        for (int use = 0; use <= 12; use++) {
            Tell used = new Tell();
            use(used, use);
            used.x.clear();
            giveVariables(used);
            long[] got = answers(used, expression);
            String where = what + " behind use " + use;
            Check.due(where + ": how much is seen", got.length, want.length);
            for (int i = 0; i < Math.min(got.length, want.length); i++) {
                Check.due(where + ": answer " + i, got[i], want[i]);
            }
        }
    }

    private static void giveVariables(Tell t) {
        for (int v = 0; v < 8; v++) {
            t.x.run(t.set(v, t.number(100 + v)));
        }
        t.x.clear();
    }

    /** Runs that FAIL with 1 to 9, two that FAIL with 10, one that does not, and no run at all. */
    private static void use(Tell t, int use) {
        int one = t.number(1);
        int nul = t.nul();
        int leaves = t.filled(Tell.array(Tell.LEAF), t.list(nul));
        int open = t.list(one, one, one);
        switch (use) {
            case 0: break;
            case 1: dueFails(t, 1, t.varied(INTS, t.list(one, one, t.length(nul)))); break;
            case 2: dueFails(t, 2, t.each(leaves, 0, t.at(leaves, one))); break;
            case 3: dueFails(t, 3, t.note(77, t.put(leaves, t.number(0), leaves))); break;
            case 4: dueFails(t, 4, t.filled(Tell.array2(Tell.INT), t.list(nul, t.array(INTS, t.number(-1))))); break;
            case 5: dueFails(t, 5, t.cast(Tell.LEAF, leaves)); break;
            case 6: dueFails(t, 6, t.array(Tell.array2(Tell.INT), t.number(400), t.number(2))); break;
            case 7: dueFails(t, 7, t.taken(t.fail(), t.note(77, t.fail()), 1)); break;
            case 8: dueFails(t, 8, t.note(77, t.varied(INTS, t.list(one, t.over(one, t.number(0)))))); break;
            case 9: dueFails(t, 9, open); break;
            case 10: dueFails(t, 10, t.then(fortyTaken(t), t.taken(t.fail(), one, 1))); break;
            case 11: dueFails(t, 10, t.each(t.array(INTS, t.number(1600)), 0, t.then(nul, nul))); break;
            default: t.dueThing("use 12", t.note(77, t.varied(INTS, open)), 0); break;
        }
    }

    private static void dueFails(Tell t, int with, int node) {
        Check.due("use that FAILS " + with, t.x.run(node), Tell.failed(with));
    }

    /** All that a run answers and makes, with the numbers of its THINGS counted from its first one. */
    private static long[] answers(Tell t, Told expression) {
        int first = t.x.told(1);
        int elements = t.x.told(2);
        int node = expression.by(t);
        List<Long> seen = new ArrayList<>();
        int answer = t.x.run(node);
        seen.add((long) answer);
        seen.add(t.x.value() - (answer == Tell.A_THING ? first : 0));
        seen.add((long) t.x.where());
        seen.add((long) t.x.worked());
        seen.add((long) t.x.notes());
        for (int i = 0; i <= t.x.notes(); i++) {
            seen.add((long) t.x.note(i));
        }
        for (int v = 0; v < 8; v++) {
            seen.add((long) t.x.has(v));
            seen.add(t.x.get(v) - (t.x.has(v) == Tell.A_THING ? first : 0));
        }
        seen.add((long) t.x.told(2) - elements);
        for (int thing = first; thing < t.x.told(1); thing++) {
            addThing(t.x, thing, first, seen);
        }
        return seen.stream().mapToLong(Long::longValue).toArray();
    }

    private static void addThing(ArrayRules x, int thing, int first, List<Long> seen) {
        boolean hasNumbers = x.thing(thing, 0) - 16 <= Tell.DOUBLE;
        for (int what = 0; what < 3; what++) {
            seen.add((long) x.thing(thing, what));
        }
        // The first ELEMENTS are enough: an object has 512 calls.
        for (int i = 0; i < Math.min(x.thing(thing, 1), 4); i++) {
            long element = x.element(thing, i);
            seen.add(hasNumbers || element == Tell.NONE ? element : element - first);
            seen.add(hasNumbers ? x.bits(thing, i) : 0);
        }
    }

    /** "There are no NODES then". */
    private static void clearedNodesAreNone() {
        Tell t = new Tell();
        int one = t.number(1);
        t.plus(one, one);
        t.x.clear();
        Seen before = new Seen(t.x);
        for (int node = 0; node < 3; node++) {
            Check.due("cleared: run " + node, t.x.run(node), Tell.OUTSIDE);
            Check.due("cleared: SET " + node, t.x.node(3, 0, node, 0, 0), Tell.OUTSIDE);
            Check.due("cleared: LIST of " + node, t.x.node(10, -1, node, 0, 0), Tell.OUTSIDE);
        }
        before.dueStill("cleared");
        Check.due("cleared: from 0 on", t.number(8), 0);
        Check.due("cleared: not yet", t.x.node(6, 0, 1, 0, 0), Tell.OUTSIDE);
        t.dueNumber("cleared: the new one", 0, 8);
    }

    /** "LISTS: a part that is to be one is none", and a LIST has the NODES that it was told with. */
    private static void clearedListsAreNone() {
        Tell t = new Tell();
        int list = t.list(t.number(1), t.number(2));
        Check.due("LIST of two", list, 3);
        t.x.clear();
        Check.due("FILLED with a cleared LIST", t.x.node(11, INTS, list, 0, 0), Tell.OUTSIDE);
        for (int i = 0; i <= list; i++) {
            t.number(40 + i);
        }
        Check.due("FILLED with what stands there", t.x.node(11, INTS, list, 0, 0), Tell.OUTSIDE);
        Check.due("LIST behind what stands there", t.x.node(10, list, 0, 0, 0), Tell.OUTSIDE);
        Check.due("MOVE with what stands there", t.x.node(26, 0, 0, 0, list), Tell.OUTSIDE);
        t.x.clear();
        int first = t.number(6);
        t.number(7);
        t.number(8);
        Check.due("LIST of one where that of two was", t.list(first), list);
        t.dueThing("FILLED with it", t.filled(INTS, list), 0);
        t.dueElements("FILLED with it", 0, 6);
    }

    private static void eightyAgain() {
        Tell t = new Tell();
        for (int round = 0; round < 3; round++) {
            for (int i = 0; i < 80; i++) {
                Check.due("NODE " + i + " of round " + round, t.number(round), i);
            }
            Check.due("ROOM in round " + round, t.x.node(0, 5, 0, 0, 0), Tell.ROOM);
            Check.due("OUTSIDE in round " + round, t.x.node(3, 0, 80, 0, 0), Tell.OUTSIDE);
            t.dueNumber("the last one of round " + round, 79, round);
            Check.due("clear of round " + round, t.x.clear(), 80);
        }
    }

    /** "VARIABLES, THINGS, the TRACE stay": and the latest run is the latest one still. */
    private static void theLatestRunStaysBehindClear() {
        Tell t = new Tell();
        int made = t.filled(Tell.array(Tell.FLOAT), t.list(t.number(5), t.number(-6)));
        t.dueThing("one ahead", made, 0);
        t.dueThing("ahead of clear", t.note(3, t.set(4, made)), 1);
        Seen before = new Seen(t.x);
        int there = t.x.clear();
        Check.due("how many there were", there, 7);
        t.number(1);
        for (int i = 1; i < there; i++) {
            t.nul();
        }
        before.dueStill("behind clear, with as many NODES");
    }

    private static void whatFailedStaysBehindClear() {
        Tell t = new Tell();
        t.number(1);
        int fail = t.fail();
        t.dueFail("ahead of clear", t.note(2, fail), 7, fail);
        t.x.clear();
        Check.due("where behind clear", t.x.where(), fail);
        Check.due("value behind clear", t.x.value(), 0);
        Check.due("worked behind clear", t.x.worked(), 2);
        t.dueNotes("behind clear", 2);
        Check.due("no such NODE", t.x.run(fail), Tell.OUTSIDE);
        Check.due("where behind a run that is none", t.x.where(), fail);
        Check.due("worked behind a run that is none", t.x.worked(), 2);
        t.dueNotes("behind a run that is none", 2);
        t.dueNumber("the next run", t.number(4), 4);
        Check.due("worked in the next run", t.x.worked(), 1);
        t.dueNotes("the next run");
    }

    /** "If one FAILS, what would come behind it is not worked": what came ahead of it stays. */
    private static void aFailLeavesWhatItDid() {
        Tell t = new Tell();
        int leaf = t.set(0, t.make(Tell.LEAF));
        int root = t.set(1, t.make(Tell.ROOT));
        int filled = t.filled(Tell.array(Tell.LEAF), t.list(leaf, root, t.set(2, t.make(Tell.LEAF))));
        t.dueFail("FILLED", filled, 3, filled);
        t.dueTold("FILLED", 3, 3);
        t.dueElements("FILLED", 0, 1, Tell.NONE, Tell.NONE);
        Check.due("FILLED: its first one", t.x.get(0), 1);
        Check.due("FILLED: its second one", t.x.get(1), 2);
        Check.due("FILLED: not its third one", t.x.has(2), Tell.A_NUMBER);
        t.x.clear();
        int varied = t.varied(Tell.array(Tell.LEAF), t.list(t.get(0), t.get(1), t.get(0)));
        t.dueFail("VARIED", varied, 3, varied);
        t.dueTold("VARIED", 4, 6);
        t.dueElements("VARIED", 3, 1, Tell.NONE, Tell.NONE);
        t.x.clear();
        t.dueThing("a LEAF's row of ROOTS", t.set(3, t.filled(Tell.array(Tell.ROOT),
                t.list(t.get(0), t.get(0), t.get(1), t.get(0)))), 4);
        t.x.run(t.set(4, t.array(Tell.array(Tell.LEAF), t.number(4))));
        int move = t.move(t.get(3), t.number(0), t.get(4), t.number(0), t.number(4));
        t.dueFail("MOVE", move, 3, move);
        t.dueElements("MOVE", 5, 1, 1, Tell.NONE, Tell.NONE);
    }

    /** What VARIED has worked when it FAILS is of no later run, however often it does. */
    private static void openVariedIsForgotten() {
        Tell t = new Tell();
        int last = t.set(0, t.number(1));
        int list = t.list(last);
        for (int i = 0; i < 60; i++) {
            list = t.x.node(10, list, last, 0, 0);
        }
        int failing = t.fail();
        int open = t.varied(INTS, t.x.node(10, list, failing, 0, 0));
        int varied = t.varied(INTS, list);
        for (int i = 0; i < 100; i++) {
            t.dueFail("VARIED that is open", open, 7, failing);
        }
        t.dueThing("VARIED behind them", varied, 0);
        Check.due("VARIED behind them: LENGTH", t.x.thing(0, 1), 61);
        for (int i = 0; i < 61; i++) {
            Check.due("VARIED behind them: ELEMENT " + i, t.x.element(0, i), 1);
        }
    }

    /** "They stay": what was made is the same THING in each later run. */
    private static void thingsOfEarlierRuns() {
        Tell t = new Tell();
        t.x.run(t.set(0, t.make(Tell.LEAF)));
        t.x.run(t.set(1, t.array(Tell.array2(Tell.ROOT), t.number(2), t.number(1))));
        t.x.run(t.fail());
        t.x.clear();
        int leaf = t.get(0);
        int rows = t.get(1);
        int zero = t.number(0);
        int row = t.at(rows, zero);
        t.dueThing("AT", row, 2);
        t.dueThing("PUT", t.put(row, zero, leaf), 0);
        t.dueNumber("SAME", t.same(t.at(row, zero), leaf), 1);
        t.dueNumber("SAME of two", t.same(row, t.at(rows, t.number(1))), 0);
        t.dueNumber("IS", t.is(Tell.array(Tell.NAMED), row), 1);
        t.dueNumber("IS not", t.is(Tell.array(Tell.LEAF), row), 0);
        t.dueThing("CAST", t.cast(Tell.array(Tell.OBJECT), rows), 1);
        int narrow = t.cast(Tell.array2(Tell.LEAF), rows);
        t.dueFail("CAST to less", narrow, 5, narrow);
        t.dueThing("COPY", t.set(2, t.copy(rows)), 4);
        t.dueElements("COPY", 4, 2, 3);
        t.x.clear();
        t.dueNumber("the copy's ROW is the same", t.same(t.at(t.get(2), t.number(0)), t.at(t.get(1), t.number(0))), 1);
        t.dueNumber("the copy is another", t.same(t.get(1), t.get(2)), 0);
        t.dueThing("VARIED of one", t.varied(Tell.array(Tell.OBJECT), t.list(t.get(2))), 4);
        int last = t.get(7);
        t.dueNumber("EACH", t.each(t.get(2), 7, t.put(last, t.number(0), t.nul())), 2);
        Check.due("EACH: the last one stays", t.x.get(7), 3);
        Check.due("EACH: what it put", t.x.element(2, 0), Tell.NONE);
        t.dueTold("all", 5, 6);
    }

    private static void variablesOfEarlierRuns() {
        Tell t = new Tell();
        t.x.run(t.set(5, t.number(Integer.MAX_VALUE)));
        t.x.run(t.set(6, t.nul()));
        t.x.run(t.taken(t.fail(), t.number(0), 7));
        t.x.clear();
        t.dueNumber("a number", t.plus(t.get(5), t.get(5)), 2L * Integer.MAX_VALUE);
        t.dueNumber("what a CATCH took", t.get(7), 7);
        t.dueNull("NULL", t.get(6));
        int length = t.length(t.get(6));
        t.dueFail("LENGTH of it", length, 1, length);
        int step = t.set(5, t.plus(t.get(5), t.number(1)));
        for (int i = 1; i <= 5; i++) {
            t.dueNumber("run " + i + " of the same NODE", step, (long) Integer.MAX_VALUE + i);
            t.x.run(length);
        }
        Check.due("at last", t.x.get(5), Integer.MAX_VALUE + 5L);
    }

    /** An ELEMENT stays the real that it is, though its VALUE is cut off. */
    private static void realsOfEarlierRuns() {
        for (int base : new int[] {Tell.FLOAT, Tell.DOUBLE}) {
            Tell t = new Tell();
            t.give(0, Long.MAX_VALUE);
            t.x.run(t.set(1, t.array(Tell.array(base), t.number(1))));
            int beyond = t.add(t.get(1), t.number(0), t.get(0));
            t.dueNumber("once", beyond, Long.MAX_VALUE);
            t.dueNumber("twice", beyond, Long.MAX_VALUE);
            t.x.clear();
            t.x.run(t.fail());
            t.dueThing("COPY", t.copy(t.get(1)), 1);
            for (int thing = 0; thing < 2; thing++) {
                long want = base == Tell.FLOAT ? Float.floatToRawIntBits(0x1p64f) : Double.doubleToRawLongBits(0x1p64);
                Check.due("bits of " + thing, t.x.bits(thing, 0), want);
                Check.due("element of " + thing, t.x.element(thing, 0), Long.MAX_VALUE);
            }
        }
    }

    /** "400 in all", "4000 in all": of all runs, those that FAILED too. */
    private static void roomIsThatOfAllRuns() {
        Tell t = new Tell();
        int failing = t.filled(INTS, t.list(t.number(1), t.fail()));
        for (int i = 1; i <= 100; i++) {
            t.x.run(failing);
        }
        t.dueTold("100 that FAILED", 100, 200);
        t.x.clear();
        int zero = t.number(0);
        int many = t.array(Tell.array2(Tell.INT), t.number(298), zero);
        t.dueThing("298 within one", many, 100);
        t.dueThing("the last one", t.make(Tell.OBJECT), 399);
        int more = t.array(INTS, zero);
        t.dueFail("one more", more, 6, more);
        t.x.clear();
        more = t.make(Tell.LEAF);
        t.dueFail("one more behind clear", more, 6, more);
        t.dueTold("all", 400, 498);
    }

    /** "An object is used for at most 512 calls": 51 rounds of 10 calls, and two more. */
    private static void theLastCalls() {
        ArrayRules x = new ArrayRules();
        for (int i = 0; i < 51; i++) {
            String what = "round " + i;
            Check.due(what + ": NUMBER", x.node(0, i, 0, 0, 0), 0);
            Check.due(what + ": MAKE", x.node(9, INTS, 0, -1, -1), 1);
            Check.due(what + ": SET", x.node(3, i % 8, 1, 0, 0), 2);
            Check.due(what + ": AT", x.node(13, 2, 0, 0, 0), 3);
            Check.due(what + ": run", x.run(2), Tell.A_THING);
            Check.due(what + ": value", x.value(), 2 * i);
            Check.due(what + ": a run that FAILS", x.run(3), Tell.failed(2));
            Check.due(what + ": where", x.where(), 3);
            Check.due(what + ": get", x.get(i % 8), 2 * i + 1);
            Check.due(what + ": clear", x.clear(), 4);
        }
        Check.due("call 511", x.told(1), 2 * 51);
        Check.due("call 512", x.told(2), 51 * 50);
    }
}
