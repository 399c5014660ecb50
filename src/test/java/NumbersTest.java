/** The CODES for numbers, and TO CUT: PLUS, OVER, CAST, IS, SAME, THEN, IF, CATCH. */
public final class NumbersTest {
    private static final long[] SAMPLES = {
        0, 1, -1, 2, 127, 128, 129, -128, -129, 255, 256, 32767, 32768, -32768, -32769, 65535,
        65536, 65537, 16777216, 16777217, 16777219, -16777217, 2147483647L, 2147483648L,
        -2147483648L, -2147483649L, 4294967295L, 4294967296L, 4294967297L, 9007199254740993L,
        9007199254740995L, -9007199254740993L, 1152921573326323713L, 1152921573326323712L,
        4611686018427387904L, Long.MAX_VALUE, Long.MAX_VALUE - 511, Long.MAX_VALUE - 512,
        Long.MIN_VALUE, Long.MIN_VALUE + 1, Long.MIN_VALUE + 1025, 1L << 40, (1L << 63) + (1L << 38),
    };

    public static void main(String[] args) {
        sums();
        casts();
        castsOfReferences();
        is();
        same();
        thenAndIf();
        catches();
        wrongKinds();
        Check.end();
    }

    private static void sums() {
        for (int i = 0; i + 1 < SAMPLES.length; i++) {
            Tell t = new Tell();
            t.x.run(t.set(0, t.large(SAMPLES[i])));
            Check.due("a large number", t.x.get(0), SAMPLES[i]);
            t.x.clear();
            t.x.run(t.set(1, t.large(SAMPLES[i + 1])));
            t.dueNumber("PLUS", t.plus(t.get(0), t.get(1)), SAMPLES[i] + SAMPLES[i + 1]);
        }
        Tell t = new Tell();
        t.x.run(t.set(0, t.large(Long.MAX_VALUE)));
        t.dueNumber("going round", t.plus(t.get(0), t.number(1)), Long.MIN_VALUE);
    }

    private static long cut(int base, long n) {
        switch (base) {
            case Tell.BOOLEAN: return n == 0 ? 0 : 1;
            case Tell.BYTE: return (byte) n;
            case Tell.CHAR: return (char) n;
            case Tell.SHORT: return (short) n;
            case Tell.INT: return (int) n;
            case Tell.LONG: return n;
            case Tell.FLOAT: return (long) (float) n;
            default: return (long) (double) n;
        }
    }

    private static void casts() {
        for (long sample : SAMPLES) {
            Tell t = new Tell();
            t.x.run(t.set(0, t.large(sample)));
            t.x.clear();
            int get = t.get(0);
            for (int base = 0; base < 8; base++) {
                t.dueNumber("CAST of " + sample + " to " + base, t.cast(base, get), cut(base, sample));
            }
            for (int type : new int[] {8, 9, 10, 11, 16, 20, 24, 36, 59}) {
                int cast = t.cast(type, get);
                t.dueFail("CAST of a number to " + type, cast, 9, cast);
            }
        }
    }

    private static void castsOfReferences() {
        Tell t = new Tell();
        int nul = t.nul();
        int root = t.set(0, t.make(Tell.ROOT));
        int row = t.array(Tell.array(Tell.LEAF), t.number(1));
        t.x.run(root);
        int got = t.get(0);
        for (int type : new int[] {8, 9, 10, 11, 20, 59}) {
            t.dueNull("CAST of NULL to " + type, t.cast(type, nul));
        }
        for (int type : new int[] {0, 4, 7}) {
            int cast = t.cast(type, nul);
            t.dueFail("CAST of NULL to numbers", cast, 9, cast);
            cast = t.cast(type, got);
            t.dueFail("CAST of a THING to numbers", cast, 9, cast);
        }
        for (int type : new int[] {8, 9, 10}) {
            t.dueThing("CAST of a ROOT to " + type, t.cast(type, got), 0);
        }
        for (int type : new int[] {11, 24, 26}) {
            int cast = t.cast(type, got);
            t.dueFail("CAST of a ROOT to " + type, cast, 5, cast);
        }
        t.dueThing("CAST of LEAF[] to NAMED[]", t.cast(Tell.array(Tell.NAMED), row), 1);
        int cast = t.cast(Tell.array2(Tell.OBJECT), row);
        t.dueFail("CAST of LEAF[] to OBJECT[][]", cast, 5, cast);
    }

    private static void is() {
        Tell t = new Tell();
        int leaf = t.make(Tell.LEAF);
        int row = t.array(Tell.array(Tell.INT), t.number(0));
        t.dueNumber("IS: a LEAF a NAMED", t.is(Tell.NAMED, leaf), 1);
        t.dueNumber("IS: a LEAF a LEAF", t.is(Tell.LEAF, leaf), 1);
        t.dueNumber("IS: a ROOT a LEAF", t.is(Tell.LEAF, t.make(Tell.ROOT)), 0);
        t.dueNumber("IS: NULL an OBJECT", t.is(Tell.OBJECT, t.nul()), 0);
        t.dueNumber("IS: int[] an OBJECT", t.is(Tell.OBJECT, row), 1);
        t.dueNumber("IS: int[] an int[]", t.is(Tell.array(Tell.INT), row), 1);
        t.dueNumber("IS: int[] an OBJECT[]", t.is(Tell.array(Tell.OBJECT), row), 0);
        t.dueNumber("IS: a number", t.is(Tell.OBJECT, t.number(3)), 0);
    }

    private static void same() {
        Tell t = new Tell();
        int zero = t.number(0);
        int nul = t.nul();
        int get = t.get(0);
        t.x.run(t.set(0, t.make(Tell.ROOT)));
        t.dueNumber("SAME numbers", t.same(zero, t.number(0)), 1);
        t.dueNumber("other numbers", t.same(zero, t.number(1)), 0);
        t.dueNumber("SAME: both NULL", t.same(nul, t.nul()), 1);
        t.dueNumber("SAME THING", t.same(get, get), 1);
        t.dueNumber("another THING", t.same(get, t.make(Tell.ROOT)), 0);
        t.dueNumber("a THING and NULL", t.same(get, nul), 0);
        t.dueNumber("NULL and a THING", t.same(nul, get), 0);
        int[][] mixed = {{zero, nul}, {nul, zero}, {zero, get}, {get, zero}};
        for (int[] pair : mixed) {
            int same = t.same(t.note(1, pair[0]), t.note(2, pair[1]));
            t.dueFail("SAME: a number and a reference", same, 9, same);
            t.dueNotes("SAME: both are worked", 1, 2);
        }
        t.dueNumber("NULL is not NONE", t.same(t.number(-1), t.number(-1)), 1);
    }

    private static void thenAndIf() {
        Tell t = new Tell();
        int one = t.note(1, t.number(10));
        int two = t.note(2, t.nul());
        t.dueNull("THEN", t.then(one, two));
        t.dueNotes("THEN", 1, 2);
        t.dueNumber("THEN, the other way", t.then(two, one), 10);
        t.dueNotes("THEN, the other way", 2, 1);
        t.dueNumber("IF", t.either(t.number(-1), one, two), 10);
        t.dueNotes("IF", 1);
        t.dueNull("else", t.either(t.number(0), one, two));
        t.dueNotes("else", 2);
        int either = t.either(two, one, one);
        t.dueFail("IF of a reference", either, 9, either);
        t.dueNotes("IF of a reference", 2);
    }

    private static void catches() {
        Tell t = new Tell();
        int note = t.note(1, t.number(4));
        t.dueNumber("nothing to take", t.taken(t.number(6), note, 2), 6);
        t.dueNotes("nothing to take");
        Check.due("nothing to take: VARIABLE", t.x.get(2), 0);
        t.x.run(t.set(2, t.nul()));
        t.dueNumber("taken", t.taken(t.note(3, t.fail()), note, 2), 4);
        t.dueNotes("taken", 3, 1);
        Check.due("taken: VARIABLE", t.x.get(2), 7);
        Check.due("taken: a number", t.x.has(2), 0);
        t.dueNumber("VARIABLE ahead of y", t.taken(t.list(note), t.plus(t.get(2), t.get(2)), 2), 18);
        t.dueNull("y may be a reference", t.taken(t.fail(), t.nul(), 2));
        int inner = t.taken(t.fail(), t.over(note, t.number(0)), 3);
        t.dueNumber("taken further out", t.taken(inner, t.get(4), 4), 8);
        Check.due("taken within", t.x.get(3), 7);
    }

    private static void wrongKinds() {
        Tell t = new Tell();
        int nul = t.note(1, t.nul());
        int thing = t.note(2, t.make(Tell.ROOT));
        int one = t.note(3, t.number(1));
        int node = t.plus(nul, one);
        t.dueFail("PLUS", node, 9, node);
        t.dueNotes("PLUS: at once", 1);
        node = t.plus(one, thing);
        t.dueFail("PLUS, right", node, 9, node);
        t.dueNotes("PLUS, right", 3, 2);
        node = t.over(thing, one);
        t.dueFail("OVER", node, 9, node);
        t.dueNotes("OVER: at once", 2);
        node = t.over(one, nul);
        t.dueFail("OVER, right", node, 9, node);
    }
}
