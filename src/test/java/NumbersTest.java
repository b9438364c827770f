import java.util.ArrayList;
import java.util.List;

/** Promises 13, 20 and 30: numbers widen and are compared as the machine does it, over the edges of each sort. */
public final class NumbersTest {
    private static final Due due = new Due();

    public static void main(String[] args) {
        List<Long> values = edges();
        for (long v : values) {
            widen(5, 6, v, Float.floatToIntBits((float) v));
            widen(5, 7, v, Double.doubleToLongBits((double) v));
            widen(4, 6, v, Float.floatToIntBits((float) (int) v));
            widen(4, 7, v, Double.doubleToLongBits((double) (int) v));
            widen(3, 6, v, Float.floatToIntBits((float) (char) v));
            widen(2, 7, v, Double.doubleToLongBits((double) (short) v));
            widen(1, 6, v, Float.floatToIntBits((float) (byte) v));
            widen(1, 5, v, (byte) v);
            widen(3, 5, v, (char) v);
            widen(6, 7, v, Double.doubleToLongBits((double) Float.intBitsToFloat((int) v)));
        }
        for (int i = 0; i < values.size(); i += 3) {
            for (int j = 0; j < values.size(); j += 7) compare(values.get(i), values.get(j));
        }
        due.end();
    }

    /** Around the powers of two, where rounding turns over, and floats and doubles of all kinds as bits. */
    private static List<Long> edges() {
        List<Long> values = new ArrayList<>();
        for (int top = 0; top < 64; top++) {
            long power = 1L << top;
            for (long d = -3; d <= 3; d++) {
                values.add(power + d);
                values.add(-power + d);
            }
            for (int lost = 0; lost < top; lost += 5) {
                values.add(power + (power >>> 1) + (1L << lost));
                values.add(power - (1L << lost));
            }
        }
        for (int cut : new int[] {39, 40, 41, 10, 11, 12}) {
            long half = 1L << cut - 1;
            for (long odd = 0; odd < 4; odd++) {
                for (long d = -1; d <= 1; d++) values.add(1L << 62 | odd << cut | half + d);
            }
        }
        for (int e = 0; e < 256; e += 15) {
            for (int f : new int[] {0, 1, 2, 3, 0x400000, 0x7fffff}) {
                values.add((long) (e << 23 | f));
                values.add((long) (e << 23 | f | Integer.MIN_VALUE));
            }
        }
        for (double d : new double[] {0.5, 1.5, -1.5, 1e18, -1e18, 1e300, Double.MIN_VALUE, -Double.MIN_VALUE}) {
            values.add(Double.doubleToLongBits(d));
        }
        values.add(0x7ff0000000000000L);
        values.add(0xfff0000000000000L);
        return values;
    }

    private static void widen(int from, int to, long bits, long wide) {
        FamilyFields x = new FamilyFields();
        x.record();
        x.part(0, 'a', from, 0, 0);
        x.give(0, bits);
        x.make(0);
        x.keep(0);
        x.build();
        x.becomes(0, 0, to, 0);
        x.load(0);
        due.is(bits + " of sort " + from + " as " + to, x.told(0, 0), wide);
    }

    private static void compare(long a, long b) {
        long between = a / 2 + b / 2;
        double d = Double.longBitsToDouble(b);
        float f = Float.intBitsToFloat((int) b);
        compared(5, a, b, between, a <= between && between <= b);
        compared(7, a, b, Double.doubleToLongBits((double) between), (double) a <= between && (double) between <= (double) b);
        compared(6, a, b, Float.floatToIntBits((float) a), (double) a <= (float) a && (float) a <= (double) b);
        compared(7, a, Long.MAX_VALUE, b, (double) a <= d && d <= (double) Long.MAX_VALUE);
        compared(6, Long.MIN_VALUE, a, b, (double) Long.MIN_VALUE <= f && f <= (double) a);
    }

    private static void compared(int sort, long a, long b, long bits, boolean is) {
        FamilyFields x = new FamilyFields();
        x.record();
        x.part(0, 'a', sort, 0, 0);
        x.check(0, 0, 0, a, b);
        x.give(0, bits);
        due.is(bits + " of sort " + sort + " between " + a + " and " + b, x.make(0), is ? 0 : -11);
    }
}
