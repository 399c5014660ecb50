import java.util.Arrays;

/** What one run has at most: 256 notes kept, 40 times CATCH, 3000 NODES. */
public final class LimitsTest {
    public static void main(String[] args) {
        for (int ahead : new int[] {0, 1, 253, 254, 255, 256, 257, 1400}) {
            notesKept(ahead);
        }
        notesAreThoseOfTheLatestRun();
        for (int failing : new int[] {0, 1, 38, 39, 40, 41, 100}) {
            taken(failing);
        }
        eachNumberIsTaken();
        takenAnewInEachRun();
        whatDoesNotFailIsNotTaken();
        takenOneWithinTheOther();
        theNextCatchFailsItself();
        for (int size : new int[] {0, 1, 1497, 1498, 1499, 2000}) {
            workedInALoop(size);
        }
        workedAtTheEdge();
        nodesOfListsCount();
        listsDoNotCount();
        aListBehindTheLastOne();
        tooManyIsNotTaken();
        whatStandsInIsTheNextOne();
        workedAnewInEachRun();
        Check.end();
    }

    private static int bytes(Tell t, int length) {
        return t.array(Tell.array(Tell.BYTE), t.number(length));
    }

    /** "256 at most; more are not kept": 1 is noted, then 2 as often as told, then 3, then 4. */
    private static void notesKept(int ahead) {
        Tell t = new Tell();
        int loop = t.each(bytes(t, ahead), 0, t.note(2, t.get(0)));
        int node = t.note(1, t.then(loop, t.note(3, t.note(4, t.number(9)))));
        t.dueNumber(ahead + " notes", node, 9);
        Check.due(ahead + " and 3 notes", t.x.notes(), ahead + 3);
        for (int i = 0; i < ahead + 5; i++) {
            int noted = i == 0 ? 1 : i <= ahead ? 2 : i == ahead + 1 ? 3 : 4;
            int want = i < 256 && i < ahead + 3 ? noted : Tell.OUTSIDE;
            Check.due(ahead + " and 3 notes: note " + i, t.x.note(i), want);
        }
        Check.due("note -1", t.x.note(-1), Tell.OUTSIDE);
    }

    /** "(The TRACE is empty at first.)", also behind a run with more than are kept. */
    private static void notesAreThoseOfTheLatestRun() {
        Tell t = new Tell();
        int one = t.note(5, t.number(1));
        int many = t.each(bytes(t, 300), 0, one);
        t.dueNumber("300 notes", many, 300);
        Check.due("300 notes", t.x.notes(), 300);
        Check.due("300 notes: the last that is kept", t.x.note(255), 5);
        Check.due("300 notes: the next one", t.x.note(256), Tell.OUTSIDE);
        t.x.clear();
        Check.due("clear: notes", t.x.notes(), 300);
        Check.due("clear: the last that is kept", t.x.note(255), 5);
        t.dueNumber("one note", t.note(6, t.number(1)), 1);
        t.dueNotes("one note", 6);
        Check.due("one note: the next one", t.x.note(1), Tell.OUTSIDE);
        Check.due("one note: the last that was kept", t.x.note(255), Tell.OUTSIDE);
        t.dueNumber("no note", t.number(3), 3);
        t.dueNotes("no note");
        Check.due("no note: the first one", t.x.note(0), Tell.OUTSIDE);
        int fail = t.fail();
        t.dueFail("a run that FAILS", fail, 7, fail);
        t.dueNotes("a run that FAILS");
    }

    /** "40 times at most in one run: the next CATCH whose x FAILS FAILS 10 itself". */
    private static void taken(int failing) {
        Tell t = new Tell();
        int caught = t.taken(t.note(1, t.fail()), t.note(2, t.number(3)), 1);
        int node = t.each(bytes(t, failing), 0, caught);
        if (failing <= 40) {
            t.dueNumber(failing + " taken", node, failing);
        } else {
            t.dueFail(failing + " taken", node, 10, caught);
        }
        int times = Math.min(failing, 40);
        Check.due(failing + " taken: notes", t.x.notes(), failing <= 40 ? 2 * times : 2 * times + 1);
        Check.due(failing + " taken: VARIABLE", t.x.get(1), failing == 0 ? 0 : 7);
    }

    /** "VARIABLE c becomes the number with which it does": from the least to the last that is taken. */
    private static void eachNumberIsTaken() {
        Tell t = new Tell();
        int one = t.number(1);
        int nul = t.nul();
        int row = t.filled(Tell.array(Tell.LEAF), t.list(nul));
        int[] failing = {t.length(nul), t.at(row, one), t.put(row, t.number(0), row),
            t.array(Tell.array(Tell.INT), t.number(-1)), t.cast(Tell.LEAF, row),
            t.array(Tell.array(Tell.INT), t.number(4001)), t.fail(), t.over(one, t.number(0)), t.plus(one, nul)};
        for (int i = 0; i < failing.length; i++) {
            t.dueFail("FAILS " + (i + 1), failing[i], i + 1, failing[i]);
            t.x.run(t.set(3, nul));
            t.dueNumber("taken " + (i + 1), t.taken(failing[i], t.get(3), 3), i + 1);
            Check.due("taken: a number", t.x.has(3), Tell.A_NUMBER);
        }
    }

    private static void takenAnewInEachRun() {
        Tell t = new Tell();
        int caught = t.taken(t.fail(), t.number(3), 1);
        int row = t.set(7, bytes(t, 40));
        t.x.run(row);
        int forty = t.each(t.get(7), 0, caught);
        for (int i = 0; i < 3; i++) {
            t.dueNumber("40 in run " + i, forty, 40);
        }
        t.dueFail("41 in a run", t.then(forty, caught), 10, caught);
        t.dueNumber("40 in the run behind it", forty, 40);
    }

    private static void whatDoesNotFailIsNotTaken() {
        Tell t = new Tell();
        t.x.run(t.set(7, bytes(t, 40)));
        int fails = t.taken(t.fail(), t.number(3), 1);
        int holds = t.taken(t.number(5), t.fail(), 2);
        int forty = t.each(t.get(7), 0, fails);
        int without = t.each(t.get(7), 0, holds);
        t.dueNumber("40 behind 40 that hold", t.then(without, forty), 40);
        t.dueNumber("40 ahead of 40 that hold", t.then(forty, without), 40);
        t.dueFail("41 behind 40 that hold", t.then(without, t.then(forty, fails)), 10, fails);
        Check.due("that hold: VARIABLE", t.x.get(2), 0);
    }

    /** Two are taken each time: one within x of a CATCH, whose y FAILS, and that one outside. */
    private static void takenOneWithinTheOther() {
        for (int times : new int[] {19, 20, 21}) {
            Tell t = new Tell();
            int inner = t.taken(t.fail(), t.over(t.number(1), t.number(0)), 1);
            int outer = t.taken(inner, t.number(3), 2);
            int node = t.each(bytes(t, times), 0, outer);
            if (times <= 20) {
                t.dueNumber("twice " + times, node, times);
            } else {
                t.dueFail("twice " + times, node, 10, inner);
            }
            Check.due("taken within", t.x.get(1), 7);
            Check.due("taken outside", t.x.get(2), 8);
        }
        Tell t = new Tell();
        int inner = t.taken(t.fail(), t.over(t.number(1), t.number(0)), 1);
        int outer = t.taken(inner, t.number(3), 2);
        int most = t.each(bytes(t, 39), 0, t.taken(t.fail(), t.number(1), 0));
        t.dueFail("the 40th within, the 41st outside", t.then(most, outer), 10, outer);
        Check.due("the 40th takes", t.x.get(1), 7);
        Check.due("the 41st does not", t.x.get(2), 0);
    }

    private static void theNextCatchFailsItself() {
        Tell t = new Tell();
        int fail = t.fail();
        int forty = t.each(bytes(t, 40), 0, t.taken(fail, t.number(3), 1));
        int next = t.taken(t.over(t.number(4), t.number(0)), t.note(8, t.number(5)), 2);
        t.x.run(t.set(2, t.nul()));
        t.dueFail("the next CATCH", t.then(forty, next), 10, next);
        t.dueNotes("its y is not worked");
        Check.due("its VARIABLE stays", t.x.has(2), 1);
        int outer = t.taken(t.then(forty, next), t.note(9, t.number(5)), 3);
        t.dueFail("no CATCH takes it", outer, 10, next);
        t.dueNotes("no CATCH takes it");
        Check.due("no CATCH takes it: VARIABLE", t.x.get(3), 0);
        Check.due("no CATCH takes it: the last that was taken", t.x.get(1), 7);
    }

    /** An EACH that works 3 + 2 * size NODES: EACH, MAKE, NUMBER, and NOTE, NUMBER each time. */
    private static int loop(Tell t, int size) {
        return t.each(bytes(t, size), 0, t.note(1, t.number(6)));
    }

    /** "In one run 3000 NODES are worked at most .. with the next one the run FAILS 10". */
    private static void workedInALoop(int size) {
        Tell t = new Tell();
        int node = loop(t, size);
        if (size < 1499) {
            t.dueNumber("a loop of " + size, node, size);
            Check.due("worked", t.x.worked(), 3 + 2 * size);
            Check.due("notes", t.x.notes(), size);
        } else {
            t.dueFail("a loop of " + size, node, 10, node - 2);
            Check.due("worked", t.x.worked(), 3000);
            Check.due("notes", t.x.notes(), 1499);
        }
    }

    private static void workedAtTheEdge() {
        Tell t = new Tell();
        t.x.run(t.set(1, bytes(t, 1498)));
        int loop = t.each(t.get(1), 0, t.note(1, t.number(6)));
        t.dueNumber("2998 NODES", loop, 1498);
        Check.due("2998: worked", t.x.worked(), 2998);
        int set = t.set(2, loop);
        t.dueNumber("2999 NODES", set, 1498);
        Check.due("2999: worked", t.x.worked(), 2999);
        int last = t.set(3, set);
        t.dueNumber("3000 NODES", last, 1498);
        Check.due("3000: worked", t.x.worked(), 3000);
        Check.due("3000: the last one has come to its end", t.x.get(3), 1498);
        int more = t.set(4, last);
        t.dueFail("3001 NODES", more, 10, loop - 2);
        Check.due("3001: worked", t.x.worked(), 3000);
        Check.due("3001: notes", t.x.notes(), 1498);
        Check.due("3001: VARIABLE", t.x.get(4), 0);
        int behind = t.then(loop, t.set(5, t.number(8)));
        t.dueFail("3001 NODES, the last one behind", behind, 10, behind - 2);
        Check.due("behind: worked", t.x.worked(), 3000);
        Check.due("behind: VARIABLE", t.x.get(5), 0);
        int none = t.then(set, t.set(5, t.number(8)));
        t.dueFail("the next one is a whole", none, 10, none - 1);
    }

    /** "a LIST's NODES counting": FILLED, VARIED and MOVE, whose last NODE is the 3000th or the next. */
    private static void nodesOfListsCount() {
        for (int length : new int[] {2, 3, 4, 5}) {
            for (int code : new int[] {11, 22}) {
                Tell t = new Tell();
                int loop = loop(t, 1496);
                int[] items = new int[length];
                for (int i = 0; i < length; i++) {
                    items[i] = t.number(10 + i);
                }
                int made = t.x.node(code, Tell.array(Tell.INT), t.list(items), 0, 0);
                int node = t.then(loop, made);
                if (length <= 3) {
                    t.dueThing("a LIST of " + length, node, 1);
                    Check.due("a LIST: worked", t.x.worked(), 2997 + length);
                    t.dueElements("a LIST", 1, Arrays.copyOf(new long[] {10, 11, 12}, length));
                } else {
                    t.dueFail("a LIST of " + length, node, 10, items[3]);
                    Check.due("a LIST: worked", t.x.worked(), 3000);
                    Check.due("a LIST: THINGS", t.x.told(1), code == 11 ? 2 : 1);
                }
            }
        }
        Tell t = new Tell();
        t.x.run(t.set(1, bytes(t, 3)));
        t.x.run(t.set(2, bytes(t, 1496)));
        int get = t.get(1);
        int p = t.number(1);
        int n = t.number(2);
        int loop = t.each(t.get(2), 0, t.note(1, t.number(6)));
        int move = t.then(loop, t.move(get, p, get, p, n));
        t.dueFail("MOVE, whose n is the next one", move, 10, n);
        Check.due("MOVE, whose n is the next one: worked", t.x.worked(), 3000);
        t.dueFail("MOVE, whose p is the next one", t.set(3, move), 10, p);
        t.x.run(t.set(2, bytes(t, 1495)));
        t.dueNumber("MOVE, whose n is the 3000th", t.set(3, move), 2);
        Check.due("MOVE, whose n is the 3000th: worked", t.x.worked(), 3000);
    }

    /** "LISTS not": a long one costs no more than its NODES. */
    private static void listsDoNotCount() {
        Tell t = new Tell();
        int one = t.number(1);
        int[] items = new int[70];
        Arrays.fill(items, one);
        t.dueThing("a LIST of 70", t.filled(Tell.array(Tell.INT), t.list(items)), 0);
        Check.due("a LIST of 70: worked", t.x.worked(), 71);
        t.dueThing("a LIST of 70, VARIED", t.varied(Tell.array(Tell.INT), 70), 1);
        Check.due("a LIST of 70, VARIED: worked", t.x.worked(), 71);
        t.dueFail("a LIST itself", 70, 9, 70);
        Check.due("a LIST itself: worked", t.x.worked(), 0);
    }

    /** It is not worked, so it is not the one that is too many. */
    private static void aListBehindTheLastOne() {
        Tell t = new Tell();
        int list = t.list(t.number(1));
        int then = t.then(loop(t, 1498), list);
        t.dueFail("a LIST behind the 3000th", then, 9, list);
        Check.due("a LIST behind the 3000th: worked", t.x.worked(), 3000);
    }

    /** "which CATCH does not take". */
    private static void tooManyIsNotTaken() {
        Tell t = new Tell();
        int loop = loop(t, 1499);
        int caught = t.taken(loop, t.note(7, t.number(1)), 2);
        int outer = t.taken(caught, t.note(8, t.number(1)), 3);
        t.dueFail("not taken", outer, 10, loop - 2);
        Check.due("not taken: VARIABLE", t.x.get(2), 0);
        Check.due("not taken outside: VARIABLE", t.x.get(3), 0);
        Check.due("not taken: worked", t.x.worked(), 3000);
        Tell s = new Tell();
        int within = loop(s, 1497);
        int holds = s.taken(within, s.fail(), 2);
        s.dueNumber("CATCH of what ends in time", s.set(1, s.set(1, holds)), 1497);
        Check.due("CATCH of what ends in time: worked", s.x.worked(), 3000);
    }

    /** The y of a CATCH is worked as any NODE: behind the 3000th it is the one too many. */
    private static void whatStandsInIsTheNextOne() {
        Tell t = new Tell();
        t.x.run(t.set(1, bytes(t, 1497)));
        int loop = t.each(t.get(1), 0, t.note(1, t.number(6)));
        int y = t.number(4);
        int early = t.taken(t.then(loop, t.fail()), y, 2);
        t.dueNumber("y is the 3000th", early, 4);
        Check.due("y is the 3000th: worked", t.x.worked(), 3000);
        Check.due("y is the 3000th: VARIABLE", t.x.get(2), 7);
        int late = t.taken(t.set(4, t.then(loop, t.fail())), y, 3);
        t.dueFail("y is the next one", late, 10, y);
        Check.due("y is the next one: worked", t.x.worked(), 3000);
        Check.due("y is the next one: x was taken", t.x.get(3), 7);
    }

    private static void workedAnewInEachRun() {
        Tell t = new Tell();
        t.x.run(t.set(1, bytes(t, 1499)));
        int note = t.note(1, t.number(6));
        int exact = t.each(t.get(1), 0, note);
        for (int i = 0; i < 3; i++) {
            t.dueNumber("3000 in run " + i, exact, 1499);
            Check.due("3000 in run " + i, t.x.worked(), 3000);
        }
        t.dueFail("3001", t.set(2, exact), 10, note - 1);
        t.dueNumber("3000 behind it", exact, 1499);
        t.dueNumber("a short run behind it", note, 6);
        Check.due("a short run behind it: worked", t.x.worked(), 2);
        Check.due("a run that is none", t.x.run(79), Tell.OUTSIDE);
        Check.due("a run that is none: worked", t.x.worked(), 2);
    }
}
