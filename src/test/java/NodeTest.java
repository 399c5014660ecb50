/** Promise 2: which NODES can be told. */
public final class NodeTest {
    private static final int[] NO_NODES = {-2, -1, 4, 80, Integer.MIN_VALUE, Integer.MAX_VALUE};

    public static void main(String[] args) {
        codes();
        eachPartOfEachCode();
        types();
        sizes();
        lists();
        room();
        outsideChangesNothing();
        Check.end();
    }

    /** NODES 0 and 1 are numbers, 2 a LIST of one, 3 a LIST of two. */
    private static ArrayRules withLists() {
        ArrayRules x = new ArrayRules();
        x.node(0, 1, 0, 0, 0);
        x.node(0, 2, 0, 0, 0);
        x.node(10, -1, 0, 0, 0);
        x.node(10, 2, 1, 0, 0);
        return x;
    }

    private static void due(int code, int a, int b, int c, int d, boolean fits) {
        String call = "node(" + code + ", " + a + ", " + b + ", " + c + ", " + d + ")";
        ArrayRules x = withLists();
        Check.due(call, x.node(code, a, b, c, d), fits ? 4 : Tell.OUTSIDE);
        Check.due(call + ": told", x.told(0), fits ? 5 : 4);
    }

    private static void codes() {
        for (int code : new int[] {-1, 27, 28, Integer.MIN_VALUE, Integer.MAX_VALUE}) {
            due(code, 0, 0, 0, 3, false);
        }
        ArrayRules x = new ArrayRules();
        Check.due("the first NODE", x.node(0, 5, 0, 0, 0), 0);
        Check.due("the second NODE", x.node(0, 5, 0, 0, 0), 1);
    }

    /** The parts of each CODE: n a NODE, v a VARIABLE, i a type with DIMS, - none, others by hand. */
    private static final String[] PARTS = {
        "----", "----", "v---", "vn--", "-n--", "----", "nn--", "nn--", "o---", "insz", "ln--",
        "il--", "n---", "nn--", "nnn-", "nnn-", "nn--", "n---", "tn--", "rn--", "nn--", "nvn-",
        "il--", "nn--", "nnn-", "nnv-", "nnn2",
    };

    private static int good(char part) {
        switch (part) {
            case 'n': return 1;
            case 'v': return 7;
            case 'i': return Tell.array(Tell.INT);
            case 's': case 'z': return Tell.NONE;
            case 'l': return 3;
            case '2': return 3;
            case 'o': return Tell.LEAF;
            case 't': return Tell.INT;
            case 'r': return Tell.NAMED;
            default: return -77;
        }
    }

    private static int[] bad(char part) {
        switch (part) {
            case 'n': return NO_NODES;
            case 'v': return new int[] {-1, 8, Integer.MIN_VALUE, Integer.MAX_VALUE};
            case 'i': return new int[] {-1, 0, 4, 8, 11, 12, 15, 28, 44, 60, 63, 64, 80};
            case 's': case 'z': return new int[] {-2, 0, 1, 4, 80};
            case 'l': return new int[] {-2, 0, 1, 4, 80};
            case '2': return new int[] {-2, -1, 0, 1, 2, 4, 80};
            case 'o': return new int[] {-1, 0, 7, 9, 12, 24, 26, 27, 64};
            case 't': return new int[] {-1, 12, 15, 28, 60, 64, Integer.MIN_VALUE};
            case 'r': return new int[] {-1, 0, 1, 2, 3, 4, 5, 6, 7, 12, 64};
            default: return new int[0];
        }
    }

    private static void eachPartOfEachCode() {
        for (int code = 0; code < PARTS.length; code++) {
            int[] parts = new int[4];
            for (int i = 0; i < 4; i++) {
                parts[i] = good(PARTS[code].charAt(i));
            }
            due(code, parts[0], parts[1], parts[2], parts[3], true);
            for (int i = 0; i < 4; i++) {
                int kept = parts[i];
                for (int wrong : bad(PARTS[code].charAt(i))) {
                    parts[i] = wrong;
                    due(code, parts[0], parts[1], parts[2], parts[3], false);
                }
                parts[i] = kept;
            }
        }
    }

    private static void types() {
        for (int type = -1; type <= 80; type++) {
            boolean is = type >= 0 && type < 64 && type % 16 < 12;
            due(18, type, 0, 0, 0, is);
            due(19, type, 0, 0, 0, is && type > 7);
            due(11, type, -1, 0, 0, is && type > 15);
            due(22, type, 3, 0, 0, is && type > 15);
            due(8, type, 0, 0, 0, type == 8 || type == 10 || type == 11);
            due(9, type, 0, -1, -1, is && type > 15);
            due(9, type, 0, 1, -1, is && type > 31);
            due(9, type, 0, 1, 0, is && type > 47);
        }
    }

    private static void sizes() {
        int type = Tell.array3(Tell.INT);
        due(9, type, -1, -1, -1, false);
        due(9, type, -1, 0, 0, false);
        due(9, type, 0, -1, 0, false);
        due(9, type, 0, 4, 0, false);
        due(9, type, 0, 0, 4, false);
        due(9, type, 0, 0, -2, false);
        due(9, type, 4, 0, 0, false);
        due(9, type, 2, 3, 2, true);
        due(9, Tell.array2(Tell.LEAF), 0, 0, 0, false);
    }

    private static void lists() {
        due(10, -1, 2, 0, 0, true);
        due(10, 3, 3, 0, 0, true);
        due(10, 0, 0, 0, 0, false);
        due(6, 2, 3, 0, 0, true);
        due(26, 2, 2, 2, 3, true);
        ArrayRules x = withLists();
        Check.due("a LIST of three", x.node(10, 3, 0, 0, 0), 4);
        Check.due("MOVE with a LIST of three", x.node(26, 0, 0, 0, 4), Tell.OUTSIDE);
        Check.due("another LIST on the first one", x.node(10, 2, 0, 0, 0), 5);
        Check.due("MOVE with it", x.node(26, 0, 0, 0, 5), 6);
    }

    private static void room() {
        ArrayRules x = new ArrayRules();
        for (int i = 0; i < 80; i++) {
            Check.due("NODE " + i, x.node(0, i, 0, 0, 0), i);
        }
        Check.due("NODE 80", x.node(0, 1, 0, 0, 0), Tell.ROOM);
        Check.due("OUTSIDE comes first", x.node(6, 0, 80, 0, 0), Tell.OUTSIDE);
        Check.due("no CODE comes first", x.node(27, 0, 0, 0, 0), Tell.OUTSIDE);
        Check.due("parts fit, no room", x.node(6, 0, 79, 0, 0), Tell.ROOM);
        Check.due("still 80", x.told(0), 80);
        Check.due("run of the last one", x.run(79), 0);
        Check.due("its value", x.value(), 79);
        Check.due("run beyond", x.run(80), Tell.OUTSIDE);
        Check.due("clear", x.clear(), 80);
        Check.due("room again", x.node(0, 1, 0, 0, 0), 0);
    }

    private static void outsideChangesNothing() {
        ArrayRules x = withLists();
        x.node(11, Tell.array(Tell.INT), 3, 0, 0);
        x.node(10, 3, 9, 0, 0);
        x.node(27, 0, 0, 0, 0);
        Check.due("FILLED after OUTSIDE", x.run(4), 2);
        Check.due("its LENGTH", x.thing(0, 1), 2);
        Check.due("next NODE", x.node(1, 0, 0, 0, 0), 5);
    }
}
