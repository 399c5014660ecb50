import java.lang.reflect.Array;

/** Promise 15: which types are SUB to which, as Java itself has it. */
public final class SubTest {
    private interface Named {
    }

    private static class Root implements Named {
    }

    private static final class Leaf extends Root {
    }

    private static final Class<?>[] BASES = {
        boolean.class, byte.class, char.class, short.class, int.class, long.class, float.class,
        double.class, Object.class, Named.class, Root.class, Leaf.class,
    };

    public static void main(String[] args) {
        ArrayRules x = new ArrayRules();
        for (int type = -3; type < 70; type++) {
            for (int other = -3; other < 70; other++) {
                Check.due("sub(" + type + ", " + other + ")", x.sub(type, other), due(type, other));
            }
        }
        for (int type : new int[] {Integer.MIN_VALUE, Integer.MAX_VALUE}) {
            Check.due("sub of " + type, x.sub(type, 8), Tell.OUTSIDE);
            Check.due("sub to " + type, x.sub(8, type), Tell.OUTSIDE);
        }
        byHand(x);
        Check.end();
    }

    private static void byHand(ArrayRules x) {
        Check.due("LEAF to NAMED", x.sub(11, 9), 1);
        Check.due("ROOT to LEAF", x.sub(10, 11), 0);
        Check.due("int to long", x.sub(4, 5), 0);
        Check.due("int[] to OBJECT", x.sub(20, 8), 1);
        Check.due("int[] to NAMED", x.sub(20, 9), 0);
        Check.due("int[] to OBJECT[]", x.sub(20, 24), 0);
        Check.due("LEAF[][] to OBJECT[]", x.sub(43, 24), 1);
        Check.due("OBJECT to OBJECT[]", x.sub(8, 24), 0);
    }

    private static int due(int type, int other) {
        if (!isType(type) || !isType(other)) {
            return Tell.OUTSIDE;
        }
        return classOf(other).isAssignableFrom(classOf(type)) ? 1 : 0;
    }

    private static boolean isType(int type) {
        return type >= 0 && type < 64 && type % 16 < 12;
    }

    private static Class<?> classOf(int type) {
        Class<?> found = BASES[type % 16];
        for (int i = 0; i < type / 16; i++) {
            found = Array.newInstance(found, 0).getClass();
        }
        return found;
    }
}
