/** "NONE: none", ARRAYS of LENGTH 0, LISTS of one: where there is nothing, or one alone. */
public final class EmptyTest {
    public static void main(String[] args) {
        for (int type = 16; type < 64; type++) {
            if (type % 16 < 12) {
                withoutAList(type);
                ofLengthZero(type);
            }
        }
        placesOfLengthZero();
        eachOfLengthZero();
        eachOfOne();
        moveOfLengthZero();
        variedOfOne();
        variedOfTwo();
        oneWithinAnother();
        clearOfNone();
        Check.end();
    }

    /** FILLED and VARIED "(b; NONE: none)". */
    private static void withoutAList(int type) {
        Tell t = new Tell();
        t.dueThing("FILLED with none", t.filled(type, Tell.NONE), 0);
        Check.due("FILLED with none: worked", t.x.worked(), 1);
        t.dueThing("VARIED with none", t.varied(type, Tell.NONE), 1);
        Check.due("VARIED with none: worked", t.x.worked(), 1);
        t.dueTold("with none", 2, 0);
        for (int thing = 0; thing < 2; thing++) {
            dueEmpty(t, thing, type);
        }
    }

    private static void dueEmpty(Tell t, int thing, int type) {
        Check.due("empty: type", t.x.thing(thing, 0), type);
        Check.due("empty: LENGTH", t.x.thing(thing, 1), 0);
        Check.due("empty: THINGS in it", t.x.thing(thing, 2), 0);
        Check.due("empty: element", t.x.element(thing, 0), 0);
        Check.due("empty: bits", t.x.bits(thing, 0), 0);
    }

    private static void ofLengthZero(int type) {
        Tell t = new Tell();
        t.dueThing("MAKE of 0", t.set(0, t.array(type, t.number(0))), 0);
        dueEmpty(t, 0, type);
        int get = t.get(0);
        t.dueNumber("LENGTH", t.length(get), 0);
        t.dueThing("COPY", t.copy(get), 1);
        dueEmpty(t, 1, type);
        t.dueNumber("COPY is another one", t.same(get, t.copy(get)), 0);
        t.dueThing("CAST", t.cast(type, get), 0);
        t.dueNumber("IS", t.is(type, get), 1);
        t.dueThing("VARIED with it alone", t.varied(type, t.list(get)), 0);
        t.dueTold("all of LENGTH 0", 3, 0);
    }

    /** "no such ELEMENT": there is none at 0. */
    private static void placesOfLengthZero() {
        Tell t = new Tell();
        t.x.run(t.set(0, t.array(Tell.array(Tell.LEAF), t.number(0))));
        int get = t.get(0);
        int zero = t.number(0);
        int note = t.note(1, zero);
        int[] nodes = {t.at(get, zero), t.put(get, zero, note), t.add(get, zero, note), t.step(get, zero)};
        for (int i = 0; i < nodes.length; i++) {
            t.dueFail("a place in none", nodes[i], 2, nodes[i]);
            Check.due("a place in none: z is worked", t.x.notes(), i == 1 ? 1 : 0);
        }
    }

    /** "for each of its ELEMENTS": z is not worked, and the VARIABLE stays. */
    private static void eachOfLengthZero() {
        Tell t = new Tell();
        t.x.run(t.set(3, t.nul()));
        int none = t.filled(Tell.array(Tell.INT), Tell.NONE);
        t.dueNumber("EACH of none", t.each(none, 3, t.note(1, t.fail())), 0);
        t.dueNotes("EACH of none");
        Check.due("EACH of none: VARIABLE", t.x.has(3), 1);
        Check.due("EACH of none: worked", t.x.worked(), 2);
    }

    private static void eachOfOne() {
        Tell t = new Tell();
        int one = t.filled(Tell.array(Tell.INT), t.list(t.number(8)));
        t.dueNumber("EACH of one", t.each(one, 3, t.note(1, t.nul())), 1);
        t.dueNotes("EACH of one", 1);
        Check.due("EACH of one: VARIABLE", t.x.get(3), 8);
    }

    private static void moveOfLengthZero() {
        Tell t = new Tell();
        t.x.run(t.set(0, t.array(Tell.array(Tell.INT), t.number(0))));
        t.x.run(t.set(1, t.filled(Tell.array(Tell.INT), t.list(t.number(8)))));
        int zero = t.number(0);
        int one = t.number(1);
        int none = t.get(0);
        int row = t.get(1);
        t.dueNumber("none of none", t.move(none, zero, none, zero, zero), 0);
        t.dueNumber("none to one", t.move(none, zero, row, zero, zero), 0);
        t.dueNumber("none behind one", t.move(none, zero, row, one, zero), 0);
        t.dueNumber("none from behind one", t.move(row, one, none, zero, zero), 0);
        int[] wrong = {t.move(none, zero, row, zero, one), t.move(row, zero, none, zero, one),
            t.move(none, one, none, zero, zero), t.move(none, zero, none, one, zero),
            t.move(row, zero, row, one, one)};
        for (int move : wrong) {
            t.dueFail("one of none", move, 2, move);
        }
        t.dueElements("as it was", 1, 8);
    }

    /** "if it is one, and its VALUE is NULL or a THING whose type is SUB to type a: that". */
    private static void variedOfOne() {
        Tell t = new Tell();
        int type = Tell.array(Tell.ROOT);
        t.x.run(t.set(0, t.array(Tell.array(Tell.LEAF), t.number(1))));
        t.x.run(t.set(1, t.array(Tell.array(Tell.NAMED), t.number(1))));
        t.x.run(t.set(2, t.array(type, t.number(0))));
        t.x.run(t.set(3, t.make(Tell.LEAF)));
        t.dueNull("NULL", t.varied(type, t.list(t.nul())));
        t.dueThing("a SUB one", t.varied(type, t.list(t.get(0))), 0);
        t.dueThing("the type itself", t.varied(type, t.list(t.get(2))), 2);
        t.dueTold("none was made", 4, 2);
        int above = t.varied(type, t.list(t.get(1)));
        t.dueFail("one above it", above, 3, above);
        t.dueElements("one above it: an ARRAY was made", 4, Tell.NONE);
        t.dueThing("what may stand in it", t.varied(type, t.list(t.get(3))), 5);
        t.dueElements("what may stand in it", 5, 3);
        int number = t.varied(type, t.list(t.number(1)));
        t.dueFail("a number", number, 9, number);
        t.dueTold("each of these was made", 7, 5);
    }

    private static void variedOfTwo() {
        Tell t = new Tell();
        int nul = t.nul();
        t.x.run(t.set(0, t.array(Tell.array(Tell.OBJECT), t.number(0))));
        int get = t.get(0);
        t.dueThing("two NULLS", t.varied(Tell.array(Tell.ROOT), t.list(nul, nul)), 1);
        t.dueElements("two NULLS", 1, Tell.NONE, Tell.NONE);
        t.dueThing("NULL and an ARRAY", t.varied(Tell.array(Tell.OBJECT), t.list(nul, get)), 2);
        t.dueElements("NULL and an ARRAY", 2, Tell.NONE, 0);
        t.dueThing("an ARRAY twice", t.varied(Tell.array(Tell.OBJECT), t.list(get, get)), 3);
        t.dueElements("an ARRAY twice", 3, 0, 0);
        Check.due("an ARRAY twice: THINGS in it", t.x.thing(3, 2), 2);
        int numbers = t.varied(Tell.array(Tell.INT), t.list(nul, nul));
        t.dueFail("two NULLS among numbers", numbers, 9, numbers);
        t.dueElements("two NULLS among numbers", 4, 0, 0);
    }

    /** The ELEMENTS of a type with one DIM are of none, those of one with 3 DIMS have 2. */
    private static void oneWithinAnother() {
        Tell t = new Tell();
        int none = t.filled(Tell.array(Tell.INT), Tell.NONE);
        int two = t.filled(Tell.array2(Tell.INT), t.list(none));
        int three = t.filled(Tell.array3(Tell.INT), t.list(two));
        t.dueThing("three of them", three, 0);
        t.dueElements("the outermost", 0, 1);
        t.dueElements("the one within", 1, 2);
        dueEmpty(t, 2, Tell.array(Tell.INT));
        int flat = t.filled(Tell.array(Tell.OBJECT), t.list(three));
        t.dueThing("one among OBJECTS", flat, 3);
        int skipped = t.filled(Tell.array3(Tell.INT), t.list(none));
        t.dueFail("one DIM too few", skipped, 3, skipped);
        int deep = t.filled(Tell.array2(Tell.INT), t.list(three));
        t.dueFail("two DIMS too many", deep, 3, deep);
    }

    /** "There are no NODES then: how many there were". */
    private static void clearOfNone() {
        Tell t = new Tell();
        Check.due("clear of none", t.x.clear(), 0);
        t.number(1);
        Check.due("clear of one", t.x.clear(), 1);
        Check.due("clear of none again", t.x.clear(), 0);
        Check.due("told", t.x.told(0), 0);
    }
}
