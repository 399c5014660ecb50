/** Promise 14, and floats and doubles as Java itself has them: CUT, added, and their bits. */
public final class RealsTest {
    private static long state = 20261116;

    public static void main(String[] args) {
        bitsOfNumbers();
        bitsOfAll();
        bitsByHand();
        sums();
        beyondTheGreatestNumber();
        Check.end();
    }

    /** The same numbers in every run of the test. */
    private static long next() {
        state = state * 6364136223846793005L + 1442695040888963407L;
        long mixed = state ^ state >>> 29;
        return mixed >> (mixed >>> 58);
    }

    private static Tell withNumber(long number) {
        Tell t = new Tell();
        t.x.run(t.set(0, t.large(number)));
        t.x.clear();
        return t;
    }

    private static void bitsOfAll() {
        for (int i = 0; i < 400; i++) {
            dueBits(next());
        }
        for (int i = 0; i < 64; i++) {
            dueBits(1L << i);
            dueBits((1L << i) - 1);
            dueBits(-(1L << i) - 1);
        }
    }

    private static void dueBits(long number) {
        Tell t = withNumber(number);
        t.x.run(t.filled(Tell.array(Tell.FLOAT), t.list(t.get(0))));
        t.x.run(t.filled(Tell.array(Tell.DOUBLE), t.list(t.get(0))));
        Check.due("float of " + number, t.x.element(0, 0), (long) (float) number);
        Check.due("its bits", t.x.bits(0, 0), Float.floatToRawIntBits((float) number));
        Check.due("double of " + number, t.x.element(1, 0), (long) (double) number);
        Check.due("its bits", t.x.bits(1, 0), Double.doubleToRawLongBits((double) number));
    }

    private static void bitsByHand() {
        Tell t = new Tell();
        int list = t.list(t.number(0), t.number(1), t.number(-1));
        t.x.run(t.filled(Tell.array(Tell.FLOAT), list));
        t.x.run(t.filled(Tell.array(Tell.DOUBLE), list));
        Check.due("0 as float", t.x.bits(0, 0), 0);
        Check.due("1 as float", t.x.bits(0, 1), 0x3f800000L);
        Check.due("-1 as float, with sign", t.x.bits(0, 2), -1082130432L);
        Check.due("0 as double", t.x.bits(1, 0), 0);
        Check.due("1 as double", t.x.bits(1, 1), 0x3ff0000000000000L);
        Check.due("-1 as double", t.x.bits(1, 2), 0xbff0000000000000L);
        int[][] none = {{0, 3}, {0, -1}, {1, 3}, {2, 0}, {-1, 0}, {0, Integer.MIN_VALUE}};
        for (int[] pair : none) {
            Check.due("no ELEMENT", t.x.bits(pair[0], pair[1]), 0);
        }
        t.x.run(t.make(Tell.LEAF));
        Check.due("of an INSTANCE", t.x.bits(2, 0), 0);
    }

    private static void bitsOfNumbers() {
        for (int base = 0; base < 6; base++) {
            Tell t = withNumber(-559038737L);
            t.x.run(t.filled(Tell.array(base), t.list(t.get(0))));
            Check.due("bits of BASE " + base, t.x.bits(0, 0), t.x.element(0, 0));
        }
    }

    private static void sums() {
        for (int i = 0; i < 300; i++) {
            long start = next();
            Tell t = withNumber(start);
            t.x.run(t.set(1, t.filled(Tell.array(Tell.FLOAT), t.list(t.get(0)))));
            t.x.run(t.set(2, t.filled(Tell.array(Tell.DOUBLE), t.list(t.get(0)))));
            float single = (float) start;
            double wide = (double) start;
            for (int j = 0; j < 4; j++) {
                long added = next();
                t.x.clear();
                t.x.run(t.set(0, t.large(added)));
                single += (float) added;
                wide += (double) added;
                int zero = t.number(0);
                t.dueNumber("ADD to a float", t.add(t.get(1), zero, t.get(0)), (long) single);
                t.dueNumber("ADD to a double", t.add(t.get(2), zero, t.get(0)), (long) wide);
                t.dueNumber("STEP of a float", t.step(t.get(1), zero), (long) single);
                t.dueNumber("STEP of a double", t.step(t.get(2), zero), (long) wide);
                single++;
                wide++;
                Check.due("bits of the float", t.x.bits(0, 0), Float.floatToRawIntBits(single));
                Check.due("bits of the double", t.x.bits(1, 0), Double.doubleToRawLongBits(wide));
            }
        }
    }

    private static void beyondTheGreatestNumber() {
        for (long start : new long[] {Long.MAX_VALUE, Long.MIN_VALUE}) {
            Tell t = withNumber(start);
            t.x.run(t.set(1, t.filled(Tell.array(Tell.FLOAT), t.list(t.get(0)))));
            t.x.run(t.set(2, t.filled(Tell.array(Tell.DOUBLE), t.list(t.get(0)))));
            int zero = t.number(0);
            int[] rows = {t.add(t.get(1), zero, t.get(0)), t.add(t.get(2), zero, t.get(0))};
            float single = (float) start;
            double wide = (double) start;
            for (int i = 0; i < 20; i++) {
                single += (float) start;
                wide += (double) start;
                t.dueNumber("beyond, of a float", rows[0], start);
                t.dueNumber("beyond, of a double", rows[1], start);
                Check.due("beyond: element", t.x.element(0, 0), start);
                Check.due("beyond: bits", t.x.bits(0, 0), Float.floatToRawIntBits(single));
                Check.due("beyond: bits", t.x.bits(1, 0), Double.doubleToRawLongBits(wide));
            }
            t.dueThing("a COPY keeps what is beyond", t.copy(t.get(2)), 2);
            Check.due("a COPY: bits", t.x.bits(2, 0), Double.doubleToRawLongBits(wide));
            int back = t.move(t.get(2), zero, t.get(2), zero, t.number(1));
            t.dueNumber("MOVE onto itself", back, 1);
            Check.due("MOVE: bits", t.x.bits(1, 0), Double.doubleToRawLongBits(wide));
        }
    }
}
