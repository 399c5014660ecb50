import java.util.Arrays;

/** THINGS, "400 in all", ELEMENTS, "4000 in all", and "if there is not room for all: FAILS 6". */
public final class RoomTest {
    private static final int BIG = Integer.MAX_VALUE;
    private static final int THINGS = 400, ELEMENTS = 4000;
    private static final int INTS = Tell.array(Tell.INT);

    public static void main(String[] args) {
        for (int things : new int[] {396, 397, 398, 399, 400}) {
            oneThing(things);
            severalThings(things);
        }
        for (int elements : new int[] {3995, 3996, 3997, 3998, 3999, 4000}) {
            elementsOfEachMaker(elements);
        }
        theLastThing();
        theLastElement();
        instancesAlone();
        noRoomForAll();
        roomForAll();
        nothingNeedsNoRoom();
        theyStay();
        filledIsMadeFirst();
        variedIsMadeLast();
        theFirstFailComesFirst();
        Check.end();
    }

    /** As many THINGS as told, of which VARIABLE 0 has an ARRAY of LENGTH 0. */
    private static Tell withEmpty(int things) {
        Tell t = new Tell();
        int rows = t.array(Tell.array2(Tell.INT), t.number(things - 1), t.number(0));
        t.x.run(t.set(0, t.at(rows, t.number(0))));
        Check.due("THINGS", t.x.told(1), things);
        t.x.clear();
        return t;
    }

    /** One ARRAY of as many ELEMENTS as told, which is THING 0 and in VARIABLE 0. */
    private static Tell withElements(int elements) {
        Tell t = new Tell();
        t.x.run(t.set(0, t.array(Tell.array(Tell.BYTE), t.number(elements))));
        t.dueTold("ELEMENTS", 1, elements);
        t.x.clear();
        return t;
    }

    private static void dueRoom(Tell t, String what, int node, int things, int elements) {
        int before = t.x.told(1);
        int elementsBefore = t.x.told(2);
        if (before + things <= THINGS && elementsBefore + elements <= ELEMENTS) {
            Check.due(what + ": run", t.x.run(node), Tell.A_THING);
            t.dueTold(what, before + things, elementsBefore + elements);
        } else {
            t.dueFail(what, node, 6, node);
            t.dueTold(what + ", no room", before, elementsBefore);
        }
    }

    /** Each CODE that makes one THING without ELEMENTS. */
    private static void oneThing(int things) {
        for (int maker = 0; maker < 7; maker++) {
            Tell t = withEmpty(things);
            int[] makers = {t.make(Tell.OBJECT), t.make(Tell.ROOT), t.make(Tell.LEAF), t.array(INTS, t.number(0)),
                t.filled(INTS, Tell.NONE), t.varied(INTS, Tell.NONE), t.copy(t.get(0))};
            dueRoom(t, "maker " + maker + " behind " + things, makers[maker], 1, 0);
        }
    }

    private static void severalThings(int things) {
        int[][] sizes = {{1, 0, -1}, {2, 0, -1}, {3, 0, -1}, {1, 1, 0}, {1, 2, 0}, {1, 3, 0}, {2, 1, 0},
            {3, 1, 0}, {0, 5, 5}, {1, 0, 5}, {2, 0, 5}, {4, 0, -1}, {5, 0, -1}};
        for (int[] row : sizes) {
            Tell t = withEmpty(things);
            int more = 1 + row[0] + (row[2] == -1 ? 0 : row[0] * row[1]);
            int elements = row[0] + (row[2] == -1 ? 0 : row[0] * row[1]);
            dueRoom(t, Arrays.toString(row) + " behind " + things, sized(t, row), more, elements);
        }
    }

    private static void elementsOfEachMaker(int elements) {
        for (int length = 0; length <= 5; length++) {
            for (int maker = 0; maker < 6; maker++) {
                Tell t = new Tell();
                t.x.run(t.set(0, t.array(INTS, t.number(length))));
                t.x.run(t.array(INTS, t.number(elements - length)));
                t.dueTold("ahead", 2, elements);
                int[] items = new int[length];
                Arrays.fill(items, t.number(7));
                int list = t.list(items);
                int size = t.number(length);
                int[] makers = {t.array(INTS, size), t.filled(INTS, list), t.copy(t.get(0)),
                    t.varied(INTS, list), t.array(Tell.array2(Tell.LEAF), size), t.make(Tell.LEAF)};
                String what = "maker " + maker + " of " + length + " behind " + elements;
                dueRoom(t, what, makers[maker], 1, maker == 5 ? 0 : length);
            }
        }
    }

    private static void theLastThing() {
        Tell t = withEmpty(399);
        Check.due("THING 399 ahead", t.x.thing(399, 0), Tell.OUTSIDE);
        t.dueThing("THING 399", t.set(1, t.make(Tell.ROOT)), 399);
        Check.due("THING 399: type", t.x.thing(399, 0), Tell.ROOT);
        Check.due("THING 400", t.x.thing(400, 0), Tell.OUTSIDE);
        Check.due("THING 399: VARIABLE", t.x.get(1), 399);
        t.dueNumber("THING 399 is worked on", t.is(Tell.NAMED, t.get(1)), 1);
        int more = t.make(Tell.ROOT);
        t.dueFail("THING 400", more, 6, more);
        Seen seen = new Seen(t.x);
        t.dueFail("THING 400 again", more, 6, more);
        seen.dueStill("no room");
        t.dueNumber("taken", t.taken(more, t.get(2), 2), 6);
    }

    private static void theLastElement() {
        Tell t = withElements(4000);
        int last = t.number(3999);
        int get = t.get(0);
        t.dueNumber("PUT at the last one", t.put(get, last, t.number(5)), 5);
        t.dueNumber("AT the last one", t.at(get, last), 5);
        t.dueNumber("LENGTH", t.length(get), 4000);
        Check.due("the last one", t.x.element(0, 3999), 5);
        Check.due("the one behind it", t.x.element(0, 4000), 0);
        int beyond = t.at(get, t.number(4000));
        t.dueFail("AT the one behind it", beyond, 2, beyond);
    }

    /** 400 INSTANCES and no ARRAY, made in ten runs of 40. */
    private static void instancesAlone() {
        Tell t = new Tell();
        int leaf = t.make(Tell.LEAF);
        int forty = leaf;
        for (int i = 1; i < 40; i++) {
            forty = t.then(forty, leaf);
        }
        for (int i = 1; i <= 10; i++) {
            t.dueThing("40 INSTANCES", forty, 40 * i - 1);
            t.dueTold("40 INSTANCES", 40 * i, 0);
        }
        t.dueFail("one more", forty, 6, leaf);
        t.dueTold("one more", 400, 0);
    }

    private static int sized(Tell t, int[] sizes) {
        int[] nodes = new int[3];
        for (int i = 0; i < 3; i++) {
            nodes[i] = sizes[i] < 0 ? Tell.NONE : t.number(sizes[i]);
        }
        return t.array(Tell.array3(Tell.BYTE), nodes[0], nodes[1], nodes[2]);
    }

    /** Of what does not find room all together nothing is made; large products do not go round. */
    private static void noRoomForAll() {
        int[][] rows = {{4001, -1, -1}, {63, 63, -1}, {2, 2000, -1}, {BIG, -1, -1}, {BIG, BIG, -1},
            {BIG, BIG, BIG}, {65536, 65536, 65536}, {400, 0, -1}, {1, BIG, BIG}, {20, 19, 0}, {1, 4000, -1},
            {1, 1, 3999}, {1, 1, BIG}, {1, 399, 0}, {65536, 65536, -1}, {4000, 0, -1}, {BIG, 0, 0},
            {399, 10, -1}, {2, 199, 0}, {1, 65536, 65536}, {46341, 46341, -1}, {2, 1 << 30, 2}, {4000, BIG, BIG}};
        for (int[] row : rows) {
            Tell t = new Tell();
            int make = sized(t, row);
            t.dueFail("no room for " + Arrays.toString(row), make, 6, make);
            t.dueTold("no room for " + Arrays.toString(row), 0, 0);
        }
    }

    private static void roomForAll() {
        int[][] rows = {{4000, -1, -1}, {3999, -1, -1}, {2, 1999, -1}, {62, 63, -1}, {399, 0, -1}, {398, 0, -1},
            {1, 3999, -1}, {1, 1, 3998}, {1, 398, 0}, {19, 20, 0}, {2, 198, 0}, {399, 9, -1}};
        int[] things = {1, 1, 3, 63, 400, 399, 2, 3, 400, 400, 399, 400};
        int[] elements = {4000, 3999, 4000, 3968, 399, 398, 4000, 4000, 399, 399, 398, 3990};
        for (int i = 0; i < rows.length; i++) {
            Tell t = new Tell();
            t.dueThing("room for " + Arrays.toString(rows[i]), sized(t, rows[i]), 0);
            t.dueTold("room for " + Arrays.toString(rows[i]), things[i], elements[i]);
        }
    }

    /** Sizes behind a 0 are those of no ARRAY at all. */
    private static void nothingNeedsNoRoom() {
        int[][] rows = {{0, BIG, BIG}, {0, BIG, -1}, {0, 4001, -1}, {1, 0, BIG}, {399, 0, BIG}, {0, 0, 0}};
        int[] things = {1, 1, 1, 2, 400, 1};
        for (int i = 0; i < rows.length; i++) {
            Tell t = new Tell();
            t.dueThing("nothing in " + Arrays.toString(rows[i]), sized(t, rows[i]), 0);
            t.dueTold("nothing in " + Arrays.toString(rows[i]), things[i], things[i] - 1);
        }
    }

    /** "they stay": no clear, no FAIL and no VARIABLE that becomes another gives room back. */
    private static void theyStay() {
        Tell t = new Tell();
        int row = t.set(0, t.array(INTS, t.number(2000)));
        int fails = t.then(row, t.fail());
        t.dueFail("made ahead of a FAIL", fails, 7, fails - 1);
        t.dueTold("made ahead of a FAIL", 1, 2000);
        t.x.run(t.set(0, t.nul()));
        t.x.clear();
        t.dueTold("no longer told of", 1, 2000);
        t.dueThing("the second one", t.array(INTS, t.number(2000)), 1);
        int more = t.array(INTS, t.number(1));
        t.dueFail("the third one", more, 6, more);
        t.dueTold("the third one", 2, 4000);
        t.dueThing("one without ELEMENTS", t.array(INTS, t.number(0)), 2);
        t.dueThing("an INSTANCE", t.make(Tell.LEAF), 3);
    }

    /** "it is made (no room: FAILS 6), then they are worked". */
    private static void filledIsMadeFirst() {
        Tell t = withEmpty(399);
        int leaf = t.note(1, t.make(Tell.LEAF));
        int node = t.filled(Tell.array(Tell.ROOT), t.list(leaf));
        t.dueFail("the ARRAY is the last one", node, 6, leaf - 1);
        t.dueNotes("the ARRAY is the last one", 1);
        Check.due("the ARRAY is the last one", t.x.thing(399, 0), Tell.array(Tell.ROOT));
        t.dueElements("the ARRAY is the last one", 399, Tell.NONE);
        t.dueFail("no room for the ARRAY", node, 6, node);
        t.dueNotes("no room for the ARRAY: nothing is worked");
    }

    /** All are worked, "else an ARRAY of type a is made with them (no room: 6)". */
    private static void variedIsMadeLast() {
        Tell t = withEmpty(399);
        int leaf = t.note(1, t.make(Tell.LEAF));
        int node = t.varied(Tell.array(Tell.ROOT), t.list(leaf));
        t.dueFail("the INSTANCE is the last one", node, 6, node);
        t.dueNotes("the INSTANCE is the last one", 1);
        Check.due("the INSTANCE is the last one", t.x.thing(399, 0), Tell.LEAF);
        t.dueFail("no room for the INSTANCE", node, 6, leaf - 1);
        t.dueThing("that which needs no ARRAY", t.varied(INTS, t.list(t.get(0))), 1);
        t.dueNull("NULL needs no ARRAY", t.varied(INTS, t.list(t.nul())));
        int number = t.varied(INTS, t.list(t.number(4)));
        t.dueFail("a number needs one", number, 6, number);
        int wrong = t.varied(INTS, t.list(t.nul(), t.nul()));
        t.dueFail("no room comes ahead of 9", wrong, 6, wrong);
    }

    /** COPY of NULL is 1, not 6; a size below 0 is 4, not 6. */
    private static void theFirstFailComesFirst() {
        Tell t = withEmpty(400);
        int copy = t.copy(t.nul());
        t.dueFail("COPY of NULL", copy, 1, copy);
        copy = t.copy(t.number(1));
        t.dueFail("COPY of a number", copy, 9, copy);
        int make = t.array(INTS, t.number(-1));
        t.dueFail("MAKE of -1", make, 4, make);
        make = t.array(INTS, t.nul());
        t.dueFail("MAKE of NULL", make, 9, make);
        make = t.array(Tell.array2(Tell.INT), t.number(BIG), t.number(-1));
        t.dueFail("MAKE of too many of -1", make, 4, make);
        make = t.array(INTS, t.number(0));
        t.dueFail("MAKE of 0", make, 6, make);
    }
}
