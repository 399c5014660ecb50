/**
 * "A VALUE is a number (64 bits, going round)", TO CUT a number to each BASE 0 .. 7, and OVER, each
 * at the edges. What is due is written out by hand.
 */
public final class CutTest {
    private static final long MOST = Long.MAX_VALUE, LEAST = Long.MIN_VALUE;
    private static final long TWO_24 = 1L << 24, TWO_31 = 1L << 31, TWO_32 = 1L << 32, TWO_53 = 1L << 53;

    /** "0: 1 if it is not 0": also if its lowest bits are 0. */
    private static final long[][] BOOLEANS = {
        {0, 0}, {1, 1}, {-1, 1}, {2, 1}, {-2, 1}, {256, 1}, {65536, 1}, {TWO_31, 1}, {TWO_32, 1}, {MOST, 1},
        {LEAST, 1},
    };

    /** "1 .. 5: its lowest bits, with sign but for char". */
    private static final long[][] BYTES = {
        {0, 0}, {-1, -1}, {126, 126}, {127, 127}, {128, -128}, {129, -127}, {-127, -127}, {-128, -128},
        {-129, 127}, {-130, 126}, {255, -1}, {256, 0}, {257, 1}, {-256, 0}, {-257, -1}, {TWO_32 + 127, 127},
        {TWO_32 + 128, -128}, {MOST, -1}, {LEAST, 0},
    };
    private static final long[][] CHARS = {
        {0, 0}, {1, 1}, {-1, 65535}, {-2, 65534}, {32767, 32767}, {32768, 32768}, {65534, 65534},
        {65535, 65535}, {65536, 0}, {65537, 1}, {-65535, 1}, {-65536, 0}, {-65537, 65535}, {TWO_32, 0},
        {MOST, 65535}, {LEAST, 0},
    };
    private static final long[][] SHORTS = {
        {0, 0}, {-1, -1}, {32766, 32766}, {32767, 32767}, {32768, -32768}, {32769, -32767}, {-32767, -32767},
        {-32768, -32768}, {-32769, 32767}, {65535, -1}, {65536, 0}, {-65536, 0}, {TWO_32 + 32768, -32768},
        {MOST, -1}, {LEAST, 0},
    };
    private static final long[][] INTS = {
        {0, 0}, {-1, -1}, {TWO_31 - 2, TWO_31 - 2}, {TWO_31 - 1, TWO_31 - 1}, {TWO_31, -TWO_31},
        {TWO_31 + 1, 1 - TWO_31}, {1 - TWO_31, 1 - TWO_31}, {-TWO_31, -TWO_31}, {-TWO_31 - 1, TWO_31 - 1},
        {TWO_32 - 1, -1}, {TWO_32, 0}, {TWO_32 + 1, 1}, {-TWO_32, 0}, {-TWO_32 - 1, -1}, {MOST, -1}, {LEAST, 0},
    };
    private static final long[][] LONGS = {
        {0, 0}, {-1, -1}, {TWO_31, TWO_31}, {TWO_32, TWO_32}, {TWO_53 + 1, TWO_53 + 1}, {MOST - 1, MOST - 1},
        {MOST, MOST}, {LEAST, LEAST}, {LEAST + 1, LEAST + 1},
    };

    /** "6, 7: the nearest float, double (of two the one that ends even)". */
    private static final long[][] FLOATS = {
        {0, 0}, {-1, -1}, {TWO_24 - 1, TWO_24 - 1}, {TWO_24, TWO_24}, {TWO_24 + 1, TWO_24},
        {TWO_24 + 2, TWO_24 + 2}, {TWO_24 + 3, TWO_24 + 4}, {TWO_24 + 4, TWO_24 + 4}, {TWO_24 + 5, TWO_24 + 4},
        {-TWO_24 - 1, -TWO_24}, {-TWO_24 - 3, -TWO_24 - 4}, {2 * TWO_24 + 2, 2 * TWO_24},
        {2 * TWO_24 + 3, 2 * TWO_24 + 4}, {2 * TWO_24 + 6, 2 * TWO_24 + 8}, {TWO_31 - 1, TWO_31},
        {TWO_31 - 64, TWO_31}, {TWO_31 - 65, TWO_31 - 128}, {TWO_32 - 1, TWO_32},
        // A double of it would end at the middle between two floats, which it is not.
        {(1L << 60) + (1L << 36), 1L << 60}, {(1L << 60) + (1L << 36) + 1, (1L << 60) + (1L << 37)},
        {(1L << 60) + (1L << 36) - 1, 1L << 60}, {-(1L << 60) - (1L << 36) - 1, -(1L << 60) - (1L << 37)},
        {(1L << 60) + 3 * (1L << 36) - 1, (1L << 60) + (1L << 37)},
        {(1L << 60) + 3 * (1L << 36), (1L << 60) + (1L << 38)},
        // The middle below 2 to the 63rd, which itself is above the greatest number.
        {MOST - (1L << 38), MOST - (1L << 39) + 1}, {MOST - (1L << 38) + 1, MOST}, {MOST - (1L << 39) + 1,
            MOST - (1L << 39) + 1}, {MOST, MOST}, {LEAST, LEAST}, {LEAST + (1L << 38), LEAST},
        {LEAST + (1L << 38) + 1, LEAST + (1L << 39)},
    };
    private static final long[][] DOUBLES = {
        {0, 0}, {-1, -1}, {TWO_24 + 1, TWO_24 + 1}, {TWO_32 + 1, TWO_32 + 1}, {TWO_53 - 1, TWO_53 - 1},
        {TWO_53, TWO_53}, {TWO_53 + 1, TWO_53}, {TWO_53 + 2, TWO_53 + 2}, {TWO_53 + 3, TWO_53 + 4},
        {TWO_53 + 5, TWO_53 + 4}, {-TWO_53 - 1, -TWO_53}, {-TWO_53 - 3, -TWO_53 - 4},
        {2 * TWO_53 + 2, 2 * TWO_53}, {2 * TWO_53 + 3, 2 * TWO_53 + 4}, {2 * TWO_53 + 6, 2 * TWO_53 + 8},
        {MOST - 512, MOST - 1023}, {MOST - 511, MOST}, {MOST - 1023, MOST - 1023}, {MOST, MOST},
        {LEAST, LEAST}, {LEAST + 512, LEAST}, {LEAST + 513, LEAST + 1024}, {LEAST + 1024, LEAST + 1024},
    };
    private static final long[][][] BASES = {BOOLEANS, BYTES, CHARS, SHORTS, INTS, LONGS, FLOATS, DOUBLES};

    public static void main(String[] args) {
        for (int base = 0; base < 8; base++) {
            for (long[] row : BASES[base]) {
                cut(base, row[0], row[1]);
            }
        }
        numbersThatAreTold();
        sumsGoRound();
        quotients();
        overZero();
        whetherItIsZero();
        sameLooksAtAllBits();
        addGoesRound();
        addLooksAtAllOfZ();
        stepGoesRound();
        realsAreAddedAsReals();
        realsBeyondTheGreatestNumber();
        Check.end();
    }

    /** Wherever a number is CUT: CAST, PUT, FILLED, VARIED, ADD to 0. */
    private static void cut(int base, long number, long want) {
        Tell t = new Tell();
        String what = number + " to BASE " + base;
        t.give(0, number);
        int get = t.get(0);
        int type = Tell.array(base);
        int list = t.list(get);
        int zero = t.number(0);
        t.dueNumber("CAST of " + what, t.cast(base, get), want);
        t.dueThing("FILLED with " + what, t.set(1, t.filled(type, list)), 0);
        Check.due("FILLED with " + what, t.x.element(0, 0), want);
        t.dueThing("VARIED with " + what, t.varied(type, list), 1);
        Check.due("VARIED with " + what, t.x.element(1, 0), want);
        t.dueNumber("AT " + what, t.at(t.get(1), zero), want);
        t.dueNumber("EACH of " + what, t.each(t.get(1), 2, zero), 1);
        Check.due("EACH of " + what, t.x.get(2), want);
        t.x.run(t.set(1, t.array(type, t.number(2))));
        t.dueNumber("PUT of " + what, t.put(t.get(1), t.number(1), get), want);
        t.dueElements("PUT of " + what, 2, 0, want);
        if (base != Tell.BOOLEAN) {
            t.dueNumber("ADD of " + what, t.add(t.get(1), zero, get), want);
            t.dueElements("ADD of " + what, 2, want, want);
        }
        Check.due("what was CUT stays", t.x.get(0), number);
    }

    private static void numbersThatAreTold() {
        for (int a : new int[] {Integer.MIN_VALUE, Integer.MIN_VALUE + 1, -1, 0, 1, Integer.MAX_VALUE}) {
            Tell t = new Tell();
            t.dueNumber("NUMBER " + a, t.number(a), a);
            t.x.run(t.note(a, t.number(1)));
            t.dueNotes("NOTE " + a, a);
        }
    }

    /** "A VALUE is a number (64 bits, going round)". */
    private static void sumsGoRound() {
        long[][] rows = {{MOST, 0, MOST}, {MOST, -1, MOST - 1}, {MOST, 1, LEAST}, {MOST, 2, LEAST + 1},
            {LEAST, 0, LEAST}, {LEAST, 1, LEAST + 1}, {LEAST, -1, MOST}, {LEAST, -2, MOST - 1},
            {MOST, MOST, -2}, {LEAST, LEAST, 0}, {MOST, LEAST, -1}, {TWO_31 - 1, 1, TWO_31},
            {TWO_32 - 1, 1, TWO_32}, {-TWO_31, -1, -TWO_31 - 1}, {-1, 1, 0}, {0, 0, 0}};
        for (long[] row : rows) {
            Tell t = new Tell();
            t.give(0, row[0]);
            t.give(1, row[1]);
            t.dueNumber("PLUS", t.plus(t.get(0), t.get(1)), row[2]);
            t.dueNumber("PLUS, the other way", t.plus(t.get(1), t.get(0)), row[2]);
            t.x.run(t.set(2, t.plus(t.get(0), t.get(1))));
            Check.due("a VARIABLE has all bits", t.x.get(2), row[2]);
        }
    }

    /** "x / y, cut off toward 0"; the least one over -1 goes round. */
    private static void quotients() {
        long[][] rows = {{7, 2, 3}, {-7, 2, -3}, {7, -2, -3}, {-7, -2, 3}, {1, 2, 0}, {-1, 2, 0}, {1, -2, 0},
            {2, 2, 1}, {-2, 2, -1}, {0, 5, 0}, {0, -5, 0}, {5, 1, 5}, {5, -1, -5}, {MOST, 1, MOST},
            {MOST, -1, -MOST}, {LEAST, 1, LEAST}, {LEAST, -1, LEAST}, {LEAST + 1, -1, MOST}, {LEAST, 2, -(1L << 62)},
            {LEAST, LEAST, 1}, {MOST, LEAST, 0}, {LEAST, MOST, -1}, {MOST, MOST, 1}, {TWO_32, TWO_32, 1},
            {5, TWO_32, 0}, {TWO_32 * 3, TWO_32, 3}};
        for (long[] row : rows) {
            Tell t = new Tell();
            t.give(0, row[0]);
            t.give(1, row[1]);
            t.dueNumber(row[0] + " OVER " + row[1], t.over(t.get(0), t.get(1)), row[2]);
        }
    }

    /** "FAILS 8, if y is 0". */
    private static void overZero() {
        for (long x : new long[] {0, 1, -1, TWO_32, MOST, LEAST}) {
            Tell t = new Tell();
            t.give(0, x);
            int over = t.over(t.note(1, t.get(0)), t.note(2, t.number(0)));
            t.dueFail(x + " OVER 0", over, 8, over);
            t.dueNotes("both are worked", 1, 2);
            t.dueNumber("taken", t.taken(over, t.get(3), 3), 8);
        }
    }

    /** "IF: x (a) not 0". */
    private static void whetherItIsZero() {
        long[][] rows = {{0, 6}, {1, 5}, {-1, 5}, {TWO_31, 5}, {TWO_32, 5}, {LEAST, 5}, {MOST, 5}};
        for (long[] row : rows) {
            Tell t = new Tell();
            t.give(0, row[0]);
            t.dueNumber("IF " + row[0], t.either(t.get(0), t.number(5), t.number(6)), row[1]);
        }
    }

    private static void sameLooksAtAllBits() {
        long[][] rows = {{0, 0, 1}, {TWO_32, 0, 0}, {TWO_32, TWO_32, 1}, {LEAST, 0, 0}, {LEAST, LEAST, 1},
            {MOST, -1, 0}, {TWO_53, TWO_53 + 1, 0}, {-1, -1, 1}};
        for (long[] row : rows) {
            Tell t = new Tell();
            t.give(0, row[0]);
            t.give(1, row[1]);
            t.dueNumber(row[0] + " SAME " + row[1], t.same(t.get(0), t.get(1)), row[2]);
        }
    }

    private static Tell withOne(int base, long number) {
        Tell t = new Tell();
        t.give(0, number);
        t.x.run(t.set(1, t.filled(Tell.array(base), t.list(t.get(0), t.get(0)))));
        t.x.clear();
        return t;
    }

    /** "the sum .. CUT, is put there, and is the VALUE", {BASE, the ELEMENT, z, the sum}. */
    private static void addGoesRound() {
        long[][] rows = {{Tell.BYTE, 126, 1, 127}, {Tell.BYTE, 127, 1, -128}, {Tell.BYTE, 127, 2, -127},
            {Tell.BYTE, -127, -1, -128}, {Tell.BYTE, -128, -1, 127}, {Tell.BYTE, 127, 127, -2},
            {Tell.BYTE, 0, 256, 0}, {Tell.CHAR, 65534, 1, 65535}, {Tell.CHAR, 65535, 1, 0}, {Tell.CHAR, 1, -1, 0},
            {Tell.CHAR, 0, -1, 65535}, {Tell.SHORT, 32766, 1, 32767}, {Tell.SHORT, 32767, 1, -32768},
            {Tell.SHORT, -32768, -1, 32767}, {Tell.INT, TWO_31 - 2, 1, TWO_31 - 1},
            {Tell.INT, TWO_31 - 1, 1, -TWO_31}, {Tell.INT, -TWO_31, -1, TWO_31 - 1}, {Tell.LONG, MOST - 1, 1, MOST},
            {Tell.LONG, MOST, 1, LEAST}, {Tell.LONG, LEAST, -1, MOST}, {Tell.LONG, MOST, MOST, -2}};
        for (long[] row : rows) {
            Tell t = withOne((int) row[0], row[1]);
            t.give(2, row[2]);
            t.dueNumber("ADD", t.add(t.get(1), t.number(1), t.get(2)), row[3]);
            t.dueElements("ADD", 0, row[1], row[3]);
        }
    }

    /** z is a number of 64 bits: not it, but the sum is CUT. */
    private static void addLooksAtAllOfZ() {
        long[][] rows = {{Tell.BYTE, 1, TWO_32 + 2, 3}, {Tell.INT, 1, TWO_32 + 2, 3}, {Tell.INT, -1, TWO_32, -1},
            {Tell.SHORT, 5, MOST, 4}, {Tell.CHAR, 5, LEAST, 5}, {Tell.INT, 5, -TWO_32 - 1, 4}};
        for (long[] row : rows) {
            Tell t = withOne((int) row[0], row[1]);
            t.give(2, row[2]);
            t.dueNumber("ADD of a large z", t.add(t.get(1), t.number(0), t.get(2)), row[3]);
        }
    }

    /** "by 1; the VALUE is the one before", {BASE, before, behind}. */
    private static void stepGoesRound() {
        long[][] rows = {{Tell.BYTE, 126, 127}, {Tell.BYTE, 127, -128}, {Tell.BYTE, -128, -127}, {Tell.BYTE, -1, 0},
            {Tell.CHAR, 65534, 65535}, {Tell.CHAR, 65535, 0}, {Tell.CHAR, 0, 1}, {Tell.SHORT, 32766, 32767},
            {Tell.SHORT, 32767, -32768}, {Tell.INT, TWO_31 - 2, TWO_31 - 1}, {Tell.INT, TWO_31 - 1, -TWO_31},
            {Tell.LONG, TWO_31 - 1, TWO_31}, {Tell.LONG, MOST - 1, MOST}, {Tell.LONG, MOST, LEAST},
            {Tell.LONG, -1, 0}, {Tell.FLOAT, TWO_24 - 1, TWO_24}, {Tell.FLOAT, TWO_24, TWO_24},
            {Tell.FLOAT, TWO_24 + 2, TWO_24 + 4}, {Tell.FLOAT, -1, 0}, {Tell.FLOAT, MOST, MOST},
            {Tell.FLOAT, -TWO_24, 1 - TWO_24}, {Tell.DOUBLE, TWO_24, TWO_24 + 1}, {Tell.DOUBLE, TWO_53 - 1, TWO_53},
            {Tell.DOUBLE, TWO_53, TWO_53}, {Tell.DOUBLE, TWO_53 + 2, TWO_53 + 4}, {Tell.DOUBLE, -1, 0},
            {Tell.DOUBLE, MOST, MOST}, {Tell.DOUBLE, LEAST, LEAST}};
        for (long[] row : rows) {
            Tell t = withOne((int) row[0], row[1]);
            t.dueNumber("STEP of " + row[1], t.step(t.get(1), t.number(1)), row[1]);
            t.dueElements("STEP of " + row[1] + ", BASE " + row[0], 0, row[1], row[2]);
        }
        Tell t = withOne(Tell.DOUBLE, -1);
        t.x.run(t.step(t.get(1), t.number(0)));
        Check.due("the bits of a 0 that was stepped to", t.x.bits(0, 0), 0);
    }

    /** "(of float, double: of floats, doubles, z being CUT to that first)", {BASE, before, z, sum}. */
    private static void realsAreAddedAsReals() {
        long[][] rows = {{Tell.FLOAT, 1, TWO_24 + 1, TWO_24}, {Tell.FLOAT, 1, TWO_24 + 3, TWO_24 + 4},
            {Tell.FLOAT, 1, TWO_24 - 1, TWO_24}, {Tell.FLOAT, 1, TWO_24, TWO_24},
            {Tell.FLOAT, 2, TWO_24, TWO_24 + 2}, {Tell.FLOAT, 3, TWO_24, TWO_24 + 4},
            {Tell.FLOAT, -TWO_24, TWO_24 + 1, 0}, {Tell.DOUBLE, 1, TWO_53 + 1, TWO_53},
            {Tell.DOUBLE, 1, TWO_53 + 3, TWO_53 + 4}, {Tell.DOUBLE, 1, TWO_53 - 1, TWO_53},
            {Tell.DOUBLE, 2, TWO_53, TWO_53 + 2}, {Tell.DOUBLE, 3, TWO_53, TWO_53 + 4},
            {Tell.DOUBLE, -TWO_53, TWO_53 + 1, 0}, {Tell.DOUBLE, MOST, -1, MOST}, {Tell.DOUBLE, LEAST, 1, LEAST}};
        for (long[] row : rows) {
            Tell t = withOne((int) row[0], row[1]);
            t.give(2, row[2]);
            t.dueNumber("ADD of " + row[2], t.add(t.get(1), t.number(0), t.get(2)), row[3]);
            t.dueElements("ADD of " + row[2], 0, row[3], row[1]);
        }
    }

    /** "above the greatest number of 64 bits that, below the least that". */
    private static void realsBeyondTheGreatestNumber() {
        for (int base : new int[] {Tell.FLOAT, Tell.DOUBLE}) {
            long unit = base == Tell.FLOAT ? 1L << 39 : 1024;
            long bits63 = base == Tell.FLOAT ? 0x5f000000L : 0x43e0000000000000L;
            long step = base == Tell.FLOAT ? 1L << 23 : 1L << 52;
            long sign = base == Tell.FLOAT ? 0xffffffff80000000L : LEAST;
            dueReal(base, MOST - unit + 1, 0, MOST - unit + 1, bits63 - 1);
            dueReal(base, MOST - unit + 1, unit, MOST, bits63);
            dueReal(base, MOST, 0, MOST, bits63);
            dueReal(base, MOST, MOST, MOST, bits63 + step);
            dueReal(base, MOST, -unit, MOST - unit + 1, bits63 - 1);
            dueReal(base, MOST, LEAST, 0, 0);
            dueReal(base, LEAST + unit, 0, LEAST + unit, bits63 - 1 | sign);
            dueReal(base, LEAST + unit, -unit, LEAST, bits63 | sign);
            dueReal(base, LEAST, 0, LEAST, bits63 | sign);
            dueReal(base, LEAST, LEAST, LEAST, bits63 + step | sign);
            dueReal(base, LEAST, unit, LEAST + unit, bits63 - 1 | sign);
        }
    }

    private static void dueReal(int base, long before, long z, long want, long bits) {
        Tell t = withOne(base, before);
        t.give(2, z);
        String what = before + " and " + z + " of BASE " + base;
        int zero = t.number(0);
        t.dueNumber(what, t.add(t.get(1), zero, t.get(2)), want);
        Check.due(what + ": element", t.x.element(0, 0), want);
        Check.due(what + ": bits", t.x.bits(0, 0), bits);
        t.dueNumber(what + ": AT", t.at(t.get(1), zero), want);
        t.dueNumber(what + ": EACH", t.each(t.get(1), 3, t.set(4, t.get(3))), 2);
        Check.due(what + ": EACH", t.x.get(4), t.x.element(0, 1));
        t.dueThing(what + ": COPY", t.copy(t.get(1)), 1);
        Check.due(what + ": bits of the COPY", t.x.bits(1, 0), bits);
        t.dueNumber(what + ": STEP", t.step(t.get(1), zero), want);
    }
}
