/**
 * "Calls answer, the first of these that fits: OUTSIDE ..; then nothing changes": of all calls but
 * node(), which NodeTest looks at, at their edges and on both sides of them.
 */
public final class RefusedTest {
    private static final int LEAST = Integer.MIN_VALUE, MOST = Integer.MAX_VALUE;

    private interface Call {
        long on(ArrayRules x);
    }

    public static void main(String[] args) {
        onEach(new ArrayRules(), 0, 0);
        onEach(afterThing(), 5, 2);
        onEach(afterNull(), 2, 0);
        onEach(afterFail(), 6, 3);
        onEach(withMostThings(), 5, 400);
        Check.end();
    }

    private static ArrayRules afterThing() {
        Tell t = new Tell();
        int list = t.list(t.make(Tell.LEAF));
        t.x.run(t.note(4, t.set(0, t.filled(Tell.array(Tell.ROOT), list))));
        return t.x;
    }

    private static ArrayRules afterNull() {
        Tell t = new Tell();
        t.x.run(t.set(0, t.nul()));
        return t.x;
    }

    private static ArrayRules afterFail() {
        Tell t = new Tell();
        int two = t.number(2);
        int rows = t.array(Tell.array2(Tell.FLOAT), two, two);
        int over = t.over(t.note(7, two), t.set(7, t.number(0)));
        t.x.run(rows);
        Check.due("a FAIL", t.x.run(over), Tell.failed(8));
        return t.x;
    }

    private static ArrayRules withMostThings() {
        Tell t = new Tell();
        int rows = t.array(Tell.array2(Tell.INT), t.number(399), t.number(0));
        t.x.run(t.note(-1, t.set(5, rows)));
        return t.x;
    }

    private static void due(ArrayRules x, String what, Call call, long want) {
        Seen seen = new Seen(x);
        Check.due(what, call.on(x), want);
        seen.dueStill(what);
    }

    private static void onEach(ArrayRules x, int nodes, int things) {
        Check.due("NODES", x.told(0), nodes);
        Check.due("THINGS", x.told(1), things);
        for (int node : new int[] {-2, -1, nodes, nodes + 1, 80, LEAST, MOST}) {
            due(x, "run " + node, y -> y.run(node), Tell.OUTSIDE);
        }
        int notes = x.notes();
        for (int i : new int[] {-1, notes, notes + 1, 255, 256, LEAST, MOST}) {
            due(x, "note " + i, y -> y.note(i), Tell.OUTSIDE);
        }
        for (int v : new int[] {-1, 8, 9, LEAST, MOST}) {
            due(x, "has " + v, y -> y.has(v), Tell.OUTSIDE);
            due(x, "get " + v, y -> y.get(v), 0);
        }
        for (int what : new int[] {-1, 3, 4, LEAST, MOST}) {
            due(x, "told " + what, y -> y.told(what), Tell.OUTSIDE);
            due(x, "thing, " + what, y -> y.thing(0, what), Tell.OUTSIDE);
        }
        for (int thing : new int[] {-2, -1, things, things + 1, 400, LEAST, MOST}) {
            for (int what = -1; what < 4; what++) {
                int asked = what;
                due(x, "thing " + thing, y -> y.thing(thing, asked), Tell.OUTSIDE);
            }
            due(x, "element of " + thing, y -> y.element(thing, 0), 0);
            due(x, "bits of " + thing, y -> y.bits(thing, 0), 0);
        }
        for (int thing = 0; thing < Math.min(things, 4); thing++) {
            noElements(x, thing);
        }
        for (int type : new int[] {-1, 12, 15, 28, 31, 44, 47, 60, 63, 64, LEAST, MOST}) {
            due(x, "sub of " + type, y -> y.sub(type, 8), Tell.OUTSIDE);
            due(x, "sub to " + type, y -> y.sub(8, type), Tell.OUTSIDE);
            due(x, "sub, both " + type, y -> y.sub(type, type), Tell.OUTSIDE);
        }
    }

    private static void noElements(ArrayRules x, int asked) {
        int length = Math.max(0, x.thing(asked, 1));
        for (int i : new int[] {-1, length, length + 1, 4000, LEAST, MOST}) {
            due(x, "element " + i, y -> y.element(asked, i), 0);
            due(x, "bits " + i, y -> y.bits(asked, i), 0);
        }
    }
}
