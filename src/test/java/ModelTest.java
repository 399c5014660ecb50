import java.lang.reflect.Array;

/** Many runs of calls, told by chance of a fixed seed, against the model over Java's own arrays. */
public final class ModelTest {
    private static final int OBJECTS = 2500, ROUNDS = 5;
    // VARIABLES below MIXED have ARRAYS, most of the time, those from there on numbers.
    private static final int MIXED = 5;
    private static final int A_LIST = 0, ANY = 1, AN_ARRAY = 2, A_NUMBER = 3;

    private final ArrayRules x = new ArrayRules();
    private final Model model = new Model();
    private final long[] seed;
    private String latest = "";

    private ModelTest(long[] seed) {
        this.seed = seed;
    }

    public static void main(String[] args) {
        long[] seed = {20261116};
        for (int i = 0; i < OBJECTS && Check.allAsDue(); i++) {
            new ModelTest(seed).go();
        }
        Check.end();
    }

    private int below(int bound) {
        seed[0] = seed[0] * 6364136223846793005L + 1442695040888963407L;
        return (int) ((seed[0] >>> 33) % bound);
    }

    private void go() {
        startVariables();
        int count = 20 + below(61);
        for (int round = 0; round < ROUNDS && Check.allAsDue(); round++) {
            for (int i = 0; i < count; i++) {
                tell(chosenCode());
            }
            int first = Math.max(0, model.nodes.size() - 25);
            for (int node = first; node < model.nodes.size() && Check.allAsDue(); node++) {
                if (guess(node) != A_LIST || below(20) == 0) {
                    runOne(node);
                }
            }
            dueAll();
            Check.due("clear", x.clear(), model.nodes.size());
            model.nodes.clear();
        }
    }

    private void startVariables() {
        for (int v = 0; v < MIXED; v++) {
            tell(new int[] {0, below(6), 0, 0, 0});
            int size = model.nodes.size() - 1;
            tell(new int[] {9, arrayType(), size, -1, -1});
            tell(new int[] {3, v, size + 1, 0, 0});
            runOne(size + 2);
        }
    }

    private void tell(int code) {
        int[] n = {code, 0, 0, 0, 0};
        choose(n);
        tell(n);
    }

    private void tell(int[] n) {
        int answer = x.node(n[0], n[1], n[2], n[3], n[4]);
        if (answer >= 0) {
            Check.due("node", answer, model.nodes.size());
            model.nodes.add(n);
        }
    }

    /** Numbers and VARIABLES first, so that there is something to work on. */
    private int chosenCode() {
        if (model.nodes.size() < 6) {
            return below(2) == 0 ? 0 : 2;
        }
        int[] often = {0, 2, 2, 3, 8, 9, 10, 10, 10, 11, 13, 14, 14, 14, 15, 15, 16, 21, 22, 26, 26};
        return below(2) == 0 ? often[below(often.length)] : below(27);
    }

    /** What a NODE most likely comes to. */
    private int guess(int node) {
        int[] n = model.nodes.get(node);
        switch (n[0]) {
            case 2: return n[1] < MIXED ? AN_ARRAY : A_NUMBER;
            case 9: case 11: case 17: case 22: return AN_ARRAY;
            case 10: return A_LIST;
            case 3: case 4: case 18: case 23: case 24: return guess(n[2]);
            case 25: return guess(n[1]);
            case 14: return guess(n[3]);
            case 1: case 5: case 8: case 13: return ANY;
            default: return A_NUMBER;
        }
    }

    private int anyNode() {
        int size = model.nodes.size();
        return size == 0 ? 0 : below(2) == 0 ? size - 1 - below(Math.min(size, 8)) : below(size);
    }

    /** A NODE that most likely comes to what is wanted, if chance finds one. */
    private int nodeOf(int wanted) {
        int node = anyNode();
        if (model.nodes.isEmpty() || below(40) == 0) {
            return node;
        }
        for (int i = 0; i < 20 && guess(node) != wanted; i++) {
            node = anyNode();
        }
        return node;
    }

    private int valueNode() {
        int node = anyNode();
        for (int i = 0; i < 20 && !model.nodes.isEmpty() && guess(node) == A_LIST; i++) {
            node = anyNode();
        }
        return node;
    }

    private int type() {
        return below(12) + 16 * below(4);
    }

    private int arrayType() {
        int[] bases = {0, 1, 2, 3, 4, 5, 6, 7, 8, 8, 9, 10, 11};
        return bases[below(bases.length)] + 16 * (1 + below(8) / 4 + below(8) / 7);
    }

    private int someNumber() {
        int[] edges = {-1, -1, 127, 128, 255, 65535, 32767, 16777217, 2147483647, -2147483648};
        return below(6) == 0 ? edges[below(edges.length)] : below(4);
    }

    private int variableFor(int node) {
        if (below(20) == 0 || model.nodes.isEmpty()) {
            return below(8);
        }
        return guess(node) == A_NUMBER ? MIXED + below(8 - MIXED) : below(MIXED);
    }

    private void choose(int[] n) {
        n[1] = valueNode();
        n[2] = valueNode();
        n[3] = valueNode();
        switch (n[0]) {
            case 0: n[1] = someNumber(); break;
            case 2: n[1] = below(8); break;
            case 3: n[2] = below(2) == 0 ? valueNode() : nodeOf(AN_ARRAY); n[1] = variableFor(n[2]); break;
            case 4: n[1] = below(100); break;
            case 6: case 7: n[1] = nodeOf(A_NUMBER); n[2] = nodeOf(A_NUMBER); break;
            case 8: n[1] = 8 + below(4); break;
            case 9: chooseSizes(n); break;
            case 10: n[1] = below(3) == 0 ? -1 : nodeOf(A_LIST); break;
            case 11: case 22: n[1] = arrayType(); n[2] = below(12) == 0 ? -1 : nodeOf(A_LIST); break;
            case 12: case 17: n[1] = nodeOf(AN_ARRAY); break;
            case 13: case 14: case 16: n[1] = nodeOf(AN_ARRAY); n[2] = nodeOf(A_NUMBER); break;
            case 15: n[1] = nodeOf(AN_ARRAY); n[2] = nodeOf(A_NUMBER); n[3] = nodeOf(A_NUMBER); break;
            case 18: case 19: n[1] = type(); break;
            case 21: n[1] = nodeOf(AN_ARRAY); n[2] = MIXED + below(8 - MIXED); break;
            case 24: n[1] = nodeOf(A_NUMBER); break;
            case 25: n[3] = MIXED + below(8 - MIXED); break;
            case 26: chooseMove(n); break;
            default: break;
        }
    }

    private void chooseSizes(int[] n) {
        n[1] = arrayType();
        n[2] = nodeOf(A_NUMBER);
        n[3] = n[1] < 32 || below(3) == 0 ? -1 : nodeOf(A_NUMBER);
        n[4] = n[1] < 48 || n[3] == -1 || below(3) == 0 ? -1 : nodeOf(A_NUMBER);
    }

    private void chooseMove(int[] n) {
        n[1] = nodeOf(AN_ARRAY);
        n[2] = nodeOf(A_NUMBER);
        n[3] = below(2) == 0 ? n[1] : nodeOf(AN_ARRAY);
        tell(new int[] {10, -1, nodeOf(A_NUMBER), 0, 0});
        tell(new int[] {10, model.nodes.size() - 1, nodeOf(A_NUMBER), 0, 0});
        n[4] = model.nodes.size() - 1;
    }

    private void runOne(int node) {
        latest = "object's run of " + node + " (CODE " + model.nodes.get(node)[0] + ")";
        model.run(node);
        Check.due(latest, x.run(node), model.answer);
        Check.due(latest + ": value", x.value(), model.told(model.value));
        Check.due(latest + ": where", x.where(), model.where);
        Check.due(latest + ": worked", x.worked(), model.worked);
        Check.due(latest + ": notes", x.notes(), model.trace.size());
        Check.due(latest + ": things", x.told(1), model.things.size());
        Check.due(latest + ": elements", x.told(2), model.elements);
        for (int i = 0; i < model.trace.size() && i < 256; i++) {
            Check.due(latest + ": note", x.note(i), model.trace.get(i));
        }
        for (int v = 0; v < 8; v++) {
            Check.due(latest + ": has", x.has(v), Model.kind(model.variables[v]));
            Check.due(latest + ": get", x.get(v), model.told(model.variables[v]));
        }
    }

    private void dueAll() {
        for (int thing = 0; thing < model.things.size(); thing++) {
            Object one = model.things.get(thing);
            String what = latest + ": THING " + thing;
            boolean isArray = one.getClass().isArray();
            Check.due(what + ": type", x.thing(thing, 0), model.types.get(thing));
            Check.due(what + ": LENGTH", x.thing(thing, 1), isArray ? Array.getLength(one) : -1);
            int filled = 0;
            for (int i = 0; isArray && i < Array.getLength(one); i++) {
                Object element = Model.at(one, i);
                filled += Model.kind(element) == 2 ? 1 : 0;
                Check.due(what + ": ELEMENT " + i, x.element(thing, i), model.told(element));
                Check.due(what + ": bits " + i, x.bits(thing, i), bits(one, i, element));
            }
            Check.due(what + ": THINGS", x.thing(thing, 2), filled);
        }
    }

    private long bits(Object array, int i, Object element) {
        if (array instanceof float[]) {
            return Float.floatToRawIntBits(((float[]) array)[i]);
        }
        if (array instanceof double[]) {
            return Double.doubleToRawLongBits(((double[]) array)[i]);
        }
        return model.told(element);
    }
}
