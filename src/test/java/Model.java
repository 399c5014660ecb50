import java.lang.reflect.Array;
import java.util.ArrayList;
import java.util.Arrays;
import java.util.List;

/**
 * The same promises told a second time, over Java's own arrays: what Java does with a store, a
 * copy of a span, a cast or a sum is what the class has to answer. A VALUE is a Long, null, or a
 * THING's own object. It takes only NODES that the class has taken.
 */
final class Model {
    interface Named {
    }

    static class Root implements Named {
    }

    static final class Leaf extends Root {
    }

    private static final Class<?>[] BASES = {
        boolean.class, byte.class, char.class, short.class, int.class, long.class, float.class,
        double.class, Object.class, Named.class, Root.class, Leaf.class,
    };

    /** How a NODE FAILS. */
    private static final class Failure extends RuntimeException {
        private static final long serialVersionUID = 1;
        final int with;
        final int at;

        Failure(int with, int at) {
            super(null, null, false, false);
            this.with = with;
            this.at = at;
        }
    }

    final List<int[]> nodes = new ArrayList<>();
    final List<Object> things = new ArrayList<>();
    final List<Integer> types = new ArrayList<>();
    final Object[] variables = new Object[8];
    final List<Integer> trace = new ArrayList<>();
    int elements = 0;
    int worked = 0;
    int where = -1;
    int answer = 0;
    Object value = 0L;
    private int taken = 0;

    Model() {
        Arrays.fill(variables, 0L);
    }

    static Class<?> classOf(int type) {
        Class<?> found = BASES[type % 16];
        for (int i = 0; i < type / 16; i++) {
            found = Array.newInstance(found, 0).getClass();
        }
        return found;
    }

    int numberOf(Object thing) {
        for (int i = 0; i < things.size(); i++) {
            if (things.get(i) == thing) {
                return i;
            }
        }
        return -1;
    }

    long told(Object value) {
        return value instanceof Long ? (Long) value : numberOf(value);
    }

    static int kind(Object value) {
        return value == null ? 1 : value instanceof Long ? 0 : 2;
    }

    void run(int node) {
        trace.clear();
        worked = 0;
        taken = 0;
        where = -1;
        try {
            value = work(node);
            answer = kind(value);
        } catch (Failure failure) {
            value = 0L;
            where = failure.at;
            answer = -10 - failure.with;
        }
    }

    /** The NODES of a LIST; none, if it is none. */
    List<Integer> itemsOf(int list) {
        List<Integer> items = new ArrayList<>();
        for (int at = list; at != -1 && nodes.get(at)[0] == 10; at = nodes.get(at)[1]) {
            items.add(0, nodes.get(at)[2]);
        }
        return items;
    }

    private long number(int part, int node) {
        Object got = work(part);
        if (!(got instanceof Long)) {
            throw new Failure(9, node);
        }
        return (Long) got;
    }

    private Object arrayOrNull(int part, int node) {
        Object got = work(part);
        if (got != null && !got.getClass().isArray()) {
            throw new Failure(9, node);
        }
        return got;
    }

    private Object array(int part, int node) {
        Object got = arrayOrNull(part, node);
        if (got == null) {
            throw new Failure(1, node);
        }
        return got;
    }

    private Object register(Object made, int type) {
        things.add(made);
        types.add(type);
        return made;
    }

    private Object newArray(int type, int length, int node) {
        if (things.size() >= 400 || elements + length > 4000) {
            throw new Failure(6, node);
        }
        elements += length;
        return register(Array.newInstance(classOf(type - 16), length), type);
    }

    private void room(int[] sizes, int node) {
        double arrays = 1;
        double moreThings = 0;
        double moreElements = 0;
        for (int size : sizes) {
            moreThings += arrays;
            arrays *= size;
            moreElements += arrays;
        }
        if (things.size() + moreThings > 400 || elements + moreElements > 4000) {
            throw new Failure(6, node);
        }
    }

    private Object newArrays(int type, int[] sizes, int level, int node) {
        Object made = newArray(type, sizes[level], node);
        if (level + 1 < sizes.length) {
            for (int i = 0; i < sizes[level]; i++) {
                Array.set(made, i, newArrays(type - 16, sizes, level + 1, node));
            }
        }
        return made;
    }

    static Object at(Object array, int i) {
        Object got = Array.get(array, i);
        if (got instanceof Boolean) {
            return (Boolean) got ? 1L : 0L;
        }
        if (got instanceof Character) {
            return (long) (Character) got;
        }
        return got instanceof Number ? (Object) ((Number) got).longValue() : got;
    }

    private static void putNumber(Object array, int i, long number) {
        if (array instanceof boolean[]) {
            ((boolean[]) array)[i] = number != 0;
        } else if (array instanceof byte[]) {
            ((byte[]) array)[i] = (byte) number;
        } else if (array instanceof char[]) {
            ((char[]) array)[i] = (char) number;
        } else if (array instanceof short[]) {
            ((short[]) array)[i] = (short) number;
        } else if (array instanceof int[]) {
            ((int[]) array)[i] = (int) number;
        } else if (array instanceof long[]) {
            ((long[]) array)[i] = number;
        } else if (array instanceof float[]) {
            ((float[]) array)[i] = number;
        } else {
            ((double[]) array)[i] = number;
        }
    }

    private static Object put(Object array, int i, Object put, int node) {
        if (array.getClass().getComponentType().isPrimitive() != put instanceof Long) {
            throw new Failure(9, node);
        }
        if (put instanceof Long) {
            putNumber(array, i, (Long) put);
        } else {
            try {
                ((Object[]) array)[i] = put;
            } catch (ArrayStoreException refused) {
                throw new Failure(3, node);
            }
        }
        return at(array, i);
    }

    private static void place(Object array, int i, int node) {
        if (array == null) {
            throw new Failure(1, node);
        }
        if (i < 0 || i >= Array.getLength(array)) {
            throw new Failure(2, node);
        }
    }

    /** The ELEMENT as it is, to be added to later. */
    private static Number toAdd(Object array, int i, int node) {
        place(array, i, node);
        Class<?> type = array.getClass().getComponentType();
        if (!type.isPrimitive() || type == boolean.class) {
            throw new Failure(9, node);
        }
        Object got = Array.get(array, i);
        return got instanceof Character ? (Number) (int) (Character) got : (Number) got;
    }

    private static Object putSum(Object array, int i, Number before, long added) {
        if (array instanceof float[]) {
            ((float[]) array)[i] = before.floatValue() + (float) added;
        } else if (array instanceof double[]) {
            ((double[]) array)[i] = before.doubleValue() + (double) added;
        } else {
            putNumber(array, i, before.longValue() + added);
        }
        return at(array, i);
    }

    private Object work(int node) {
        int[] n = nodes.get(node);
        if (n[0] == 10) {
            throw new Failure(9, node);
        }
        if (worked == 3000) {
            throw new Failure(10, node);
        }
        worked++;
        switch (n[0]) {
            case 0: return (long) n[1];
            case 1: return null;
            case 2: return variables[n[1]];
            case 3: return variables[n[1]] = work(n[2]);
            case 4:
                trace.add(n[1]);
                return work(n[2]);
            case 5: throw new Failure(7, node);
            case 6: return number(n[1], node) + number(n[2], node);
            case 7: {
                long left = number(n[1], node);
                long right = number(n[2], node);
                try {
                    return left / right;
                } catch (ArithmeticException by0) {
                    throw new Failure(8, node);
                }
            }
            case 8:
                if (things.size() >= 400) {
                    throw new Failure(6, node);
                }
                return register(n[1] == 8 ? new Object() : n[1] == 10 ? new Root() : new Leaf(), n[1]);
            case 9: return workMake(n, node);
            case 11: {
                List<Integer> items = itemsOf(n[2]);
                Object made = newArray(n[1], items.size(), node);
                for (int i = 0; i < items.size(); i++) {
                    put(made, i, work(items.get(i)), node);
                }
                return made;
            }
            case 12: return (long) Array.getLength(array(n[1], node));
            case 17: {
                Object from = array(n[1], node);
                int length = Array.getLength(from);
                Object made = newArray(types.get(numberOf(from)), length, node);
                System.arraycopy(from, 0, made, 0, length);
                return made;
            }
            case 18: return workCast(n, node);
            case 19: {
                Object got = work(n[2]);
                return !(got instanceof Long) && classOf(n[1]).isInstance(got) ? 1L : 0L;
            }
            case 20: {
                Object left = work(n[1]);
                Object right = work(n[2]);
                if (left instanceof Long != right instanceof Long) {
                    throw new Failure(9, node);
                }
                return (left instanceof Long ? left.equals(right) : left == right) ? 1L : 0L;
            }
            case 23:
                work(n[1]);
                return work(n[2]);
            case 24: return number(n[1], node) != 0 ? work(n[2]) : work(n[3]);
            case 25: return workCatch(n, node);
            default: return workOnArrays(n, node);
        }
    }

    private Object workOnArrays(int[] n, int node) {
        Object array = n[0] == 21 || n[0] == 22 ? null : arrayOrNull(n[1], node);
        switch (n[0]) {
            case 13: {
                int i = (int) number(n[2], node);
                place(array, i, node);
                return at(array, i);
            }
            case 14: {
                int i = (int) number(n[2], node);
                Object put = work(n[3]);
                place(array, i, node);
                return put(array, i, put, node);
            }
            case 15: {
                int i = (int) number(n[2], node);
                Number before = toAdd(array, i, node);
                return putSum(array, i, before, number(n[3], node));
            }
            case 16: {
                int i = (int) number(n[2], node);
                Number before = toAdd(array, i, node);
                putSum(array, i, before, 1);
                return before.longValue();
            }
            case 21: {
                Object looped = array(n[1], node);
                for (int i = 0; i < Array.getLength(looped); i++) {
                    variables[n[2]] = at(looped, i);
                    work(n[3]);
                }
                return (long) Array.getLength(looped);
            }
            case 22: return workVaried(n, node);
            default: return workMove(array, n, node);
        }
    }

    private Object workMake(int[] n, int node) {
        int count = n[3] == -1 ? 1 : n[4] == -1 ? 2 : 3;
        int[] sizes = new int[count];
        for (int i = 0; i < count; i++) {
            sizes[i] = (int) number(n[2 + i], node);
        }
        for (int size : sizes) {
            if (size < 0) {
                throw new Failure(4, node);
            }
        }
        room(sizes, node);
        return newArrays(n[1], sizes, 0, node);
    }

    private Object workCast(int[] n, int node) {
        Object got = work(n[2]);
        if (n[1] < 8 != got instanceof Long) {
            throw new Failure(9, node);
        }
        if (got instanceof Long) {
            Object one = Array.newInstance(classOf(n[1]), 1);
            putNumber(one, 0, (Long) got);
            return at(one, 0);
        }
        try {
            return classOf(n[1]).cast(got);
        } catch (ClassCastException refused) {
            throw new Failure(5, node);
        }
    }

    private Object workVaried(int[] n, int node) {
        List<Object> got = new ArrayList<>();
        for (int item : itemsOf(n[2])) {
            got.add(work(item));
        }
        if (got.size() == 1 && (got.get(0) == null || classOf(n[1]).isInstance(got.get(0)))) {
            return got.get(0);
        }
        Object made = newArray(n[1], got.size(), node);
        for (int i = 0; i < got.size(); i++) {
            put(made, i, got.get(i), node);
        }
        return made;
    }

    private Object workCatch(int[] n, int node) {
        try {
            return work(n[1]);
        } catch (Failure failure) {
            if (failure.with == 10) {
                throw failure;
            }
            if (taken == 40) {
                throw new Failure(10, node);
            }
            taken++;
            variables[n[3]] = (long) failure.with;
        }
        return work(n[2]);
    }

    private Object workMove(Object from, int[] n, int node) {
        int source = (int) number(n[2], node);
        Object to = arrayOrNull(n[3], node);
        int goal = (int) number(itemsOf(n[4]).get(0), node);
        int span = (int) number(itemsOf(n[4]).get(1), node);
        try {
            System.arraycopy(from, source, to, goal, span);
        } catch (NullPointerException onNull) {
            throw new Failure(1, node);
        } catch (ArrayStoreException refused) {
            throw new Failure(3, node);
        } catch (IndexOutOfBoundsException noElement) {
            throw new Failure(2, node);
        }
        return (long) span;
    }
}
