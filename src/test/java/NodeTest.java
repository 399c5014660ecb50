/** Promise 2: which NODES can be told, at the edges of each part, and that a refused one changes nothing. */
public final class NodeTest {
    private static final int LEAST = Integer.MIN_VALUE, MOST = Integer.MAX_VALUE;
    private static final int FEW = 4, ALL = 80;

    /**
     * The parts of each CODE: n a NODE, v a VARIABLE, i a type with DIMS, t a type, r one that is not
     * of numbers, o one of INSTANCES, l a LIST or NONE, 2 a LIST of two, s and z sizes behind the
     * first one, - none.
     */
    private static final String[] PARTS = {
        "----", "----", "v---", "vn--", "-n--", "----", "nn--", "nn--", "o---", "insz", "ln--",
        "il--", "n---", "nn--", "nnn-", "nnn-", "nn--", "n---", "tn--", "rn--", "nn--", "nvn-",
        "il--", "nn--", "nnn-", "nnv-", "nnn2",
    };

    public static void main(String[] args) {
        codes();
        for (int told : new int[] {FEW, ALL - 2, ALL - 1, ALL}) {
            eachPartOfEachCode(told);
        }
        typesOfEachCode();
        sizes();
        lists();
        numbersFromZeroOn();
        eightyAtMost();
        refusedNodesAreNotThere();
        Check.end();
    }

    /**
     * NODES 0 and 1 are numbers, 2 a LIST of one, 3 a LIST of two, the rest numbers. From earlier
     * NODES there are THINGS, VARIABLES, notes and a FAIL, so that a change of them would be seen.
     */
    private static ArrayRules with(int told) {
        Tell t = new Tell();
        t.x.run(t.set(3, t.filled(Tell.array(Tell.INT), t.list(t.number(6), t.number(7)))));
        t.x.run(t.set(4, t.nul()));
        t.x.run(t.note(5, t.note(6, t.fail())));
        t.x.clear();
        t.number(1);
        t.number(2);
        t.x.node(10, Tell.NONE, 0, 0, 0);
        t.x.node(10, 2, 1, 0, 0);
        for (int i = FEW; i < told; i++) {
            t.number(i);
        }
        return t.x;
    }

    private static void due(int told, int code, int[] parts, int want) {
        String call = "with " + told + " NODES: node(" + code + ", " + parts[0] + ", " + parts[1] + ", "
                + parts[2] + ", " + parts[3] + ")";
        ArrayRules x = with(told);
        Seen seen = new Seen(x);
        Check.due(call, x.node(code, parts[0], parts[1], parts[2], parts[3]), want);
        if (want < 0) {
            seen.dueStill(call);
        } else {
            Check.due(call + ": told", x.told(0), told + 1);
        }
    }

    private static void due(int code, int a, int b, int c, int d, boolean fits) {
        due(FEW, code, new int[] {a, b, c, d}, fits ? FEW : Tell.OUTSIDE);
    }

    /** "OUTSIDE: a CODE". */
    private static void codes() {
        for (int told : new int[] {FEW, ALL}) {
            for (int code : new int[] {-1, 27, 28, LEAST, MOST}) {
                due(told, code, new int[] {0, 0, 0, 3}, Tell.OUTSIDE);
            }
        }
        due(0, 1, 0, 1, 3, true);
        due(26, 0, 1, 0, 3, true);
    }

    /** What fits a part at its edges; the first one is told while another part is looked at. */
    private static int[] good(char part, int told) {
        switch (part) {
            case 'n': return new int[] {1, 0, told - 1};
            case 'v': return new int[] {7, 0};
            case 'i': return new int[] {20, 16, 27, 32, 43, 48, 59};
            case 't': return new int[] {4, 0, 7, 8, 11, 16, 27, 32, 43, 48, 59};
            case 'r': return new int[] {9, 8, 11, 16, 27, 32, 43, 48, 59};
            case 'o': return new int[] {11, 8, 10};
            case 'l': return new int[] {3, 2, Tell.NONE};
            case '2': return new int[] {3};
            case 's': case 'z': return new int[] {Tell.NONE};
            default: return new int[] {-77, LEAST, MOST, 0, told, Tell.NONE};
        }
    }

    private static int[] bad(char part, int told) {
        switch (part) {
            case 'n': return new int[] {-2, -1, told, told + 1, ALL, LEAST, MOST};
            case 'v': return new int[] {-1, 8, LEAST, MOST};
            case 'i': return new int[] {-1, 0, 4, 8, 11, 12, 15, 28, 31, 44, 47, 60, 63, 64, LEAST, MOST};
            case 't': return new int[] {-1, 12, 15, 28, 31, 44, 47, 60, 63, 64, LEAST, MOST};
            case 'r': return new int[] {-1, 0, 7, 12, 15, 28, 31, 44, 47, 60, 63, 64, LEAST, MOST};
            case 'o': return new int[] {-1, 0, 7, 9, 12, 24, 26, 27, 64, LEAST, MOST};
            case 'l': return new int[] {-2, 0, 1, told, ALL, LEAST, MOST};
            case '2': return new int[] {-2, -1, 0, 1, 2, told, ALL, LEAST, MOST};
            case 's': case 'z': return new int[] {-2, 0, 1, told, ALL, LEAST, MOST};
            default: return new int[0];
        }
    }

    /**
     * "a part that is no NODE (NONE only where told), VARIABLE, type as told", "NODES of lesser
     * numbers", "Parts that its CODE does not have are not looked at", "ROOM: there are 80", and
     * OUTSIDE ahead of ROOM.
     */
    private static void eachPartOfEachCode(int told) {
        int want = told < ALL ? told : Tell.ROOM;
        for (int code = 0; code < PARTS.length; code++) {
            int[] parts = new int[4];
            for (int i = 0; i < 4; i++) {
                parts[i] = good(PARTS[code].charAt(i), told)[0];
            }
            for (int i = 0; i < 4; i++) {
                char part = PARTS[code].charAt(i);
                int kept = parts[i];
                for (int fitting : good(part, told)) {
                    parts[i] = fitting;
                    due(told, code, parts, want);
                }
                for (int wrong : bad(part, told)) {
                    parts[i] = wrong;
                    due(told, code, parts, Tell.OUTSIDE);
                }
                parts[i] = kept;
            }
        }
    }

    /** "a BASE and 16 times how many DIMS (0 .. 3)", BASES 0 .. 11. */
    private static void typesOfEachCode() {
        for (int type = -1; type <= 80; type++) {
            boolean is = type >= 0 && type < 64 && type % 16 < 12;
            due(18, type, 0, 0, 0, is);
            due(19, type, 0, 0, 0, is && type > 7);
            due(11, type, -1, 0, 0, is && type > 15);
            due(22, type, 3, 0, 0, is && type > 15);
            due(8, type, 0, 0, 0, type == 8 || type == 10 || type == 11);
        }
    }

    /** "1 to 3 NODES (NONE behind the last one; as many as a has DIMS at most)". */
    private static void sizes() {
        for (int type = -1; type <= 80; type++) {
            int dims = type >= 0 && type < 64 && type % 16 < 12 ? type / 16 : 0;
            due(9, type, -1, -1, -1, false);
            due(9, type, 0, -1, -1, dims >= 1);
            due(9, type, 0, 1, -1, dims >= 2);
            due(9, type, 0, 1, 0, dims >= 3);
        }
        int type = Tell.array3(Tell.INT);
        int[][] wrong = {{-1, 0, 0}, {-1, -1, 0}, {-1, 0, -1}, {0, -1, 0}, {0, -1, 4}, {0, -1, -2}, {0, 4, -1},
            {0, 4, 0}, {0, -2, -1}, {0, -2, 0}, {0, 0, 4}, {0, 0, -2}, {4, 0, 0}, {4, -1, -1}, {-2, -1, -1}};
        for (int[] row : wrong) {
            due(9, type, row[0], row[1], row[2], false);
        }
        due(9, type, 3, 3, 3, true);
        due(9, type, 3, 3, -1, true);
        due(9, type, 3, -1, -1, true);
    }

    /** "a part that is to be one is none, or a LIST's x is none, or d of MOVE has not two". */
    private static void lists() {
        due(10, -1, 2, 0, 0, true);
        due(10, 3, 3, 0, 0, true);
        due(10, 0, 0, 0, 0, false);
        due(10, 4, 0, 0, 0, false);
        due(10, -2, 0, 0, 0, false);
        due(10, 2, -1, 0, 0, false);
        due(6, 2, 3, 0, 0, true);
        due(26, 2, 2, 2, 3, true);
        ArrayRules x = with(FEW);
        Check.due("MOVE with a LIST of one", x.node(26, 0, 0, 0, 2), Tell.OUTSIDE);
        Check.due("a LIST of three", x.node(10, 3, 0, 0, 0), 4);
        Check.due("MOVE with a LIST of three", x.node(26, 0, 0, 0, 4), Tell.OUTSIDE);
        Check.due("another LIST on the first one", x.node(10, 2, 0, 0, 0), 5);
        Check.due("MOVE with it", x.node(26, 0, 0, 0, 5), 6);
        Check.due("a LIST of a LIST of two", x.node(10, -1, 3, 0, 0), 7);
        Check.due("MOVE with it", x.node(26, 0, 0, 0, 7), Tell.OUTSIDE);
    }

    /** "numbered from 0 on". */
    private static void numbersFromZeroOn() {
        ArrayRules x = new ArrayRules();
        Check.due("a part ahead of all NODES", x.node(12, 0, 0, 0, 0), Tell.OUTSIDE);
        Check.due("the first NODE", x.node(1, 0, 0, 0, 0), 0);
        Check.due("its own number as part", x.node(12, 1, 0, 0, 0), Tell.OUTSIDE);
        Check.due("the second NODE", x.node(12, 0, 0, 0, 0), 1);
        Check.due("clear", x.clear(), 2);
        Check.due("a NODE of before", x.node(12, 0, 0, 0, 0), Tell.OUTSIDE);
        Check.due("the first NODE again", x.node(1, 0, 0, 0, 0), 0);
    }

    /** "NODES are told, 80 at most". */
    private static void eightyAtMost() {
        ArrayRules x = new ArrayRules();
        for (int i = 0; i < ALL; i++) {
            Check.due("NODE " + i, x.node(0, i, 0, 0, 0), i);
            Check.due("told", x.told(0), i + 1);
        }
        Check.due("NODE 80", x.node(0, 1, 0, 0, 0), Tell.ROOM);
        Check.due("OUTSIDE comes first", x.node(6, 0, 80, 0, 0), Tell.OUTSIDE);
        Check.due("parts fit, no room", x.node(6, 0, 79, 0, 0), Tell.ROOM);
        Check.due("still 80", x.told(0), ALL);
        Check.due("run of the last one", x.run(79), 0);
        Check.due("its value", x.value(), 79);
        Check.due("run beyond", x.run(80), Tell.OUTSIDE);
        Check.due("clear", x.clear(), ALL);
        for (int i = 0; i < ALL; i++) {
            Check.due("NODE " + i + " again", x.node(0, -i, 0, 0, 0), i);
        }
        Check.due("NODE 80 again", x.node(0, 1, 0, 0, 0), Tell.ROOM);
        Check.due("run of the last one again", x.run(79), 0);
        Check.due("its value again", x.value(), -79);
    }

    /** NODES can be seen only as they are worked: so an object without the refused calls is asked too. */
    private static void refusedNodesAreNotThere() {
        for (int told : new int[] {FEW, ALL - 1}) {
            ArrayRules x = with(told);
            ArrayRules twin = with(told);
            int filled = x.node(11, Tell.array(Tell.INT), 3, 0, 0);
            Check.due("the twin's NODE", twin.node(11, Tell.array(Tell.INT), 3, 0, 0), filled);
            int[][] refused = {{10, 3, 99, 0, 0}, {27, 0, 0, 0, 0}, {3, 8, 0, 0, 0}, {26, 0, 0, 0, 2}};
            for (int[] n : refused) {
                Check.due("refused", x.node(n[0], n[1], n[2], n[3], n[4]), Tell.OUTSIDE);
            }
            if (filled + 1 == ALL) {
                Check.due("refused, ROOM", x.node(0, 1, 0, 0, 0), Tell.ROOM);
                Check.due("refused, ROOM", x.node(10, 3, 0, 0, 0), Tell.ROOM);
            }
            Check.due("FILLED after refused calls", x.run(filled), 2);
            Check.due("the twin's FILLED", twin.run(filled), 2);
            new Seen(twin).dueLike("as without refused calls", x);
            Check.due("as many as without", x.clear(), twin.clear());
        }
    }
}
