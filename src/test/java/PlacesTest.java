import java.util.Arrays;

/** Places and sizes at their edges: "no such ELEMENT", "below 0", "fewer than", "cut to int". */
public final class PlacesTest {
    private static final int LEAST = Integer.MIN_VALUE, MOST = Integer.MAX_VALUE;
    private static final long TWO_31 = 1L << 31, TWO_32 = 1L << 32;
    private static final int INTS = Tell.array(Tell.INT);
    private static final int AT = 13, PUT = 14, ADD = 15, STEP = 16;

    // What a number of 64 bits is as an int.
    private static final long[][] CUT_TO_INT = {
        {TWO_32, 0}, {TWO_32 + 1, 1}, {TWO_32 + 2, 2}, {TWO_32 - 1, -1}, {-TWO_32, 0}, {1 - TWO_32, 1},
        {-TWO_32 - 1, -1}, {TWO_31, LEAST}, {TWO_31 - 1, MOST}, {-TWO_31 - 1, MOST}, {Long.MIN_VALUE, 0},
        {Long.MAX_VALUE, -1}, {Long.MIN_VALUE + 2, 2}, {7 * TWO_32 + 2, 2},
    };

    public static void main(String[] args) {
        for (int length : new int[] {0, 1, 3}) {
            for (long place : new long[] {-2, -1, 0, 1, 2, 3, 4, LEAST, MOST}) {
                place(length, place, (int) place);
            }
            for (long[] row : CUT_TO_INT) {
                place(length, row[0], (int) row[1]);
            }
        }
        onNullNoPlaceIsLookedAt();
        sizes();
        sizesAreCutToInt();
        theFirstBelowZero();
        moves();
        movesAreCutToInt();
        moveStopsAtTheFirst();
        movesMeet();
        moveOrder();
        Check.end();
    }

    /** Of an ARRAY with ELEMENTS 10, 11, 12, as many as it is long. */
    private static void place(int length, long told, int place) {
        for (int code : new int[] {AT, PUT, ADD, STEP}) {
            Tell t = new Tell();
            t.give(0, told);
            int[] items = new int[length];
            for (int i = 0; i < length; i++) {
                items[i] = t.number(10 + i);
            }
            t.x.run(t.set(1, t.filled(INTS, t.list(items))));
            t.x.clear();
            int node = t.x.node(code, t.get(1), t.note(1, t.get(0)), t.note(2, t.number(5)), 0);
            String what = "CODE " + code + " at " + told + " of " + length;
            long[] want = Arrays.copyOf(new long[] {10, 11, 12}, length);
            if (place < 0 || place >= length) {
                t.dueFail(what, node, 2, node);
                Check.due(what + ": notes", t.x.notes(), code == PUT ? 2 : 1);
            } else {
                long before = want[place];
                want[place] = code == AT ? before : code == PUT ? 5 : code == ADD ? before + 5 : before + 1;
                t.dueNumber(what, node, code == STEP ? before : want[place]);
                Check.due(what + ": notes", t.x.notes(), code == PUT || code == ADD ? 2 : 1);
            }
            t.dueElements(what, 0, want);
        }
    }

    /** "x is NULL: FAILS 1" comes ahead of "no such ELEMENT". */
    private static void onNullNoPlaceIsLookedAt() {
        for (int place : new int[] {-1, 0, 1, MOST, LEAST}) {
            for (int code : new int[] {AT, PUT, ADD, STEP}) {
                Tell t = new Tell();
                int node = t.x.node(code, t.nul(), t.note(1, t.number(place)), t.note(2, t.nul()), 0);
                t.dueFail("CODE " + code + " of NULL at " + place, node, 1, node);
                Check.due("CODE " + code + " of NULL: notes", t.x.notes(), code == PUT ? 2 : 1);
            }
        }
    }

    /** Three sizes about 0: below it FAILS 4, from it on there are so many ARRAYS. */
    private static void sizes() {
        for (int first = -1; first <= 2; first++) {
            for (int second = -1; second <= 2; second++) {
                for (int third = -1; third <= 2; third++) {
                    dueSizes(first, second, third);
                }
            }
        }
        for (int size : new int[] {-2, -1, 0, 1, LEAST, LEAST + 1}) {
            Tell t = new Tell();
            int make = t.array(INTS, t.number(size));
            if (size < 0) {
                t.dueFail("a size of " + size, make, 4, make);
                t.dueTold("a size of " + size, 0, 0);
            } else {
                t.dueThing("a size of " + size, make, 0);
                t.dueTold("a size of " + size, 1, size);
            }
        }
    }

    private static void dueSizes(int first, int second, int third) {
        Tell t = new Tell();
        int make = t.array(Tell.array3(Tell.LEAF), t.note(1, t.number(first)), t.note(2, t.number(second)),
                t.note(3, t.number(third)));
        String what = "sizes " + first + ", " + second + ", " + third;
        if (first < 0 || second < 0 || third < 0) {
            t.dueFail(what, make, 4, make);
            t.dueTold(what, 0, 0);
        } else {
            t.dueThing(what, make, 0);
            int rows = first * second;
            t.dueTold(what, 1 + first + rows, first + rows + rows * third);
            Check.due(what + ": LENGTH", t.x.thing(0, 1), first);
            Check.due(what + ": filled", t.x.thing(0, 2), first);
            dueRows(t, what, first, second, third);
        }
        t.dueNotes(what + ": all are worked", 1, 2, 3);
    }

    /** "the ARRAY comes first, then ELEMENT by ELEMENT all that is within it". */
    private static void dueRows(Tell t, String what, int first, int second, int third) {
        for (int i = 0; i < first; i++) {
            int row = 1 + i * (1 + second);
            Check.due(what + ": row " + i, t.x.element(0, i), row);
            Check.due(what + ": LENGTH of row " + i, t.x.thing(row, 1), second);
            for (int j = 0; j < second; j++) {
                Check.due(what + ": within row " + i, t.x.element(row, j), row + 1 + j);
                Check.due(what + ": LENGTH within", t.x.thing(row + 1 + j, 1), third);
                Check.due(what + ": type within", t.x.thing(row + 1 + j, 0), Tell.array(Tell.LEAF));
                Check.due(what + ": filled within", t.x.thing(row + 1 + j, 2), 0);
            }
        }
    }

    /** "each is cut to int". */
    private static void sizesAreCutToInt() {
        for (long[] row : CUT_TO_INT) {
            for (int at = 0; at < 3; at++) {
                Tell t = new Tell();
                t.give(0, row[0]);
                int[] sizes = {t.number(1), t.number(1), t.number(1)};
                sizes[at] = t.get(0);
                int make = t.array(Tell.array3(Tell.INT), sizes[0], sizes[1], sizes[2]);
                String what = "size " + at + " of " + row[0];
                if (row[1] < 0) {
                    t.dueFail(what, make, 4, make);
                } else if (row[1] == MOST) {
                    t.dueFail(what, make, 6, make);
                } else {
                    t.dueThing(what, make, 0);
                    Check.due(what, t.x.thing(at, 1), row[1]);
                }
            }
        }
    }

    /** "All sizes are worked; .. the first that is below 0: FAILS 4; then, if there is not room ..". */
    private static void theFirstBelowZero() {
        Tell t = new Tell();
        int type = Tell.array3(Tell.INT);
        int less = t.note(1, t.number(-1));
        int most = t.note(2, t.number(MOST));
        int nul = t.note(3, t.nul());
        int fail = t.fail();
        int zero = t.note(4, t.number(0));
        int[][] below = {{less, most, most}, {most, less, most}, {most, most, less}, {zero, less, most},
            {zero, zero, less}, {less, zero, zero}, {less, less, less}};
        for (int[] row : below) {
            int make = t.array(type, row[0], row[1], row[2]);
            t.dueFail("below 0", make, 4, make);
            Check.due("below 0: all are worked", t.x.notes(), 3);
        }
        t.dueFail("a size that FAILS behind it", t.array(type, less, fail, most), 7, fail);
        t.dueNotes("a size that FAILS behind it", 1);
        int make = t.array(type, less, nul, most);
        t.dueFail("a reference behind it", make, 9, make);
        t.dueNotes("a reference behind it", 1, 3);
        make = t.array(type, less, less, nul);
        t.dueFail("a reference at last", make, 9, make);
        t.dueNotes("a reference at last", 1, 1, 3);
        t.dueTold("nothing was made", 0, 0);
        make = t.array(type, most, most);
        t.dueFail("no room", make, 6, make);
        t.dueThing("none of many", t.array(type, zero, most, most), 0);
    }

    /** THING 0 is 1 .. 4 and in VARIABLE 0, THING 1 is 5 .. 7 and in VARIABLE 1. */
    private static Tell withTwo() {
        Tell t = new Tell();
        t.x.run(t.set(0, t.filled(INTS, t.list(t.number(1), t.number(2), t.number(3), t.number(4)))));
        t.x.run(t.set(1, t.filled(INTS, t.list(t.number(5), t.number(6), t.number(7)))));
        t.x.clear();
        return t;
    }

    private static void dueMove(Tell t, String what, int move, long y, long p, long n) {
        boolean fits = y >= 0 && p >= 0 && n >= 0 && y + n <= 4 && p + n <= 3;
        long[] want = {5, 6, 7};
        if (fits) {
            t.dueNumber(what, move, n);
            for (int i = 0; i < n; i++) {
                want[(int) p + i] = y + i + 1;
            }
        } else {
            t.dueFail(what, move, 2, move);
        }
        t.dueElements(what + ": what it comes from", 0, 1, 2, 3, 4);
        t.dueElements(what, 1, want);
    }

    /** "y, p or n is below 0, or one of both has fewer than y and n, p and n: 2". */
    private static void moves() {
        int[] edges = {-1, 0, 1, 2, 3, 4, 5, LEAST, MOST};
        for (int y : edges) {
            for (int p : edges) {
                for (int n : edges) {
                    Tell t = withTwo();
                    int move = t.move(t.get(0), t.number(y), t.get(1), t.number(p), t.number(n));
                    dueMove(t, "MOVE from " + y + " to " + p + ", " + n, move, y, p, n);
                }
            }
        }
    }

    /** "(y, p, n cut to int)"; "The VALUE is n". */
    private static void movesAreCutToInt() {
        for (long[] row : CUT_TO_INT) {
            for (int at = 0; at < 3; at++) {
                Tell t = withTwo();
                t.give(2, row[0]);
                int[] nodes = {t.number(1), t.number(1), t.number(1)};
                long[] are = {1, 1, 1};
                nodes[at] = t.get(2);
                are[at] = row[1];
                int move = t.move(t.get(0), nodes[0], t.get(1), nodes[1], nodes[2]);
                dueMove(t, "MOVE with " + row[0] + " as its " + at, move, are[0], are[1], are[2]);
            }
        }
    }

    /** "a THING whose type is not SUB to that of z's ELEMENTS: 3, those before it stand there". */
    private static void moveStopsAtTheFirst() {
        for (int wrong = 0; wrong <= 4; wrong++) {
            Tell t = new Tell();
            int[] items = new int[4];
            for (int i = 0; i < 4; i++) {
                items[i] = t.make(i == wrong ? Tell.ROOT : Tell.LEAF);
            }
            t.x.run(t.set(0, t.filled(Tell.array(Tell.OBJECT), t.list(items))));
            t.x.run(t.set(1, t.array(Tell.array(Tell.LEAF), t.number(4))));
            int zero = t.number(0);
            int move = t.move(t.get(0), zero, t.get(1), zero, t.number(4));
            if (wrong < 4) {
                t.dueFail("MOVE, one is wrong", move, 3, move);
            } else {
                t.dueNumber("MOVE, none is wrong", move, 4);
            }
            for (int i = 0; i < 4; i++) {
                Check.due("MOVE: " + i + ", wrong " + wrong, t.x.element(5, i), i < wrong ? i + 1 : Tell.NONE);
            }
            Check.due("MOVE: how many", t.x.thing(5, 2), wrong);
        }
    }

    /** "all being as they were ahead of it": spans of one ARRAY that meet. */
    private static void movesMeet() {
        for (int base : new int[] {Tell.INT, Tell.DOUBLE}) {
            for (int y = 0; y <= 4; y++) {
                for (int p = 0; p <= 4; p++) {
                    for (int n = 0; n <= 4 - Math.max(y, p); n++) {
                        Tell t = new Tell();
                        int list = t.list(t.number(1), t.number(2), t.number(3), t.number(4));
                        t.x.run(t.set(0, t.filled(Tell.array(base), list)));
                        int get = t.get(0);
                        long[] want = {1, 2, 3, 4};
                        System.arraycopy(want.clone(), y, want, p, n);
                        String what = "MOVE within one, " + y + ", " + p + ", " + n;
                        t.dueNumber(what, t.move(get, t.number(y), get, t.number(p), t.number(n)), n);
                        t.dueElements(what, 0, want);
                    }
                }
            }
        }
    }

    /** 1 ahead of 3 ahead of 2 ahead of 3 for one THING; none of them for n = 0. */
    private static void moveOrder() {
        Tell t = withTwo();
        t.x.run(t.set(2, t.array(Tell.array(Tell.LONG), t.number(2))));
        t.x.run(t.set(3, t.array(Tell.array(Tell.LEAF), t.number(2))));
        t.x.run(t.set(4, t.filled(Tell.array(Tell.OBJECT), t.list(t.make(Tell.ROOT), t.nul()))));
        t.x.run(t.set(5, t.nul()));
        t.x.run(t.set(6, t.array(Tell.array2(Tell.INT), t.number(2))));
        int[][] rows = {{5, -1, 0, 0, 0, 1}, {0, 0, 5, 0, -1, 1}, {5, 0, 5, 0, 0, 1}, {0, 0, 5, 9, 0, 1},
            {0, 0, 2, 0, 0, 3}, {0, -1, 2, 0, 0, 3}, {0, 0, 3, 0, 0, 3}, {3, 0, 0, 0, -1, 3}, {6, 0, 0, 0, 0, 3},
            {2, 0, 3, 9, 9, 3}, {0, 0, 6, 9, 0, 3}, {4, 0, 3, 0, 3, 2}, {4, 0, 3, 2, 1, 2}, {4, -1, 3, 0, 1, 2},
            {4, 0, 3, 0, 1, 3}, {4, 0, 3, 0, 2, 3}, {4, 0, 6, 0, 1, 3}, {6, 0, 3, 0, 3, 2}};
        for (int[] row : rows) {
            t.x.clear();
            int move = t.move(t.get(row[0]), t.number(row[1]), t.get(row[2]), t.number(row[3]), t.number(row[4]));
            t.dueFail("MOVE " + Arrays.toString(row), move, row[5], move);
        }
        t.x.clear();
        int zero = t.number(0);
        t.dueNumber("none of a ROOT", t.move(t.get(4), zero, t.get(3), zero, zero), 0);
        t.dueNumber("NULL behind a ROOT", t.move(t.get(4), t.number(1), t.get(3), zero, t.number(1)), 1);
        t.dueNumber("NULLS to rows", t.move(t.get(3), zero, t.get(6), zero, t.number(2)), 2);
    }
}
