import java.util.Random;

/** Singles and doubles are worked out on their bits: here against Java's own arithmetic. */
public final class ArithmeticTest {
    private static final int ROUNDS = 20000;
    private static final Random RANDOM = new Random(20261116);

    public static void main(String[] args) {
        long[] singles = edges(23, 127, 0x7f800000L);
        long[] doubles = edges(52, 1023, 0x7ff0000000000000L);
        for (long a : singles) {
            for (long b : singles) {
                pair(Bits.SINGLES, (int) a, (int) b);
            }
        }
        for (long a : doubles) {
            for (long b : doubles) {
                pair(Bits.DOUBLES, a, b);
            }
        }
        for (int i = 0; i < ROUNDS; i++) {
            randomPair(Bits.SINGLES, 23, 8);
            randomPair(Bits.DOUBLES, 52, 11);
        }
        Check.end();
    }

    /** Amounts where the form changes, and their neighbours, with both signs. */
    private static long[] edges(int fraction, int bias, long infinity) {
        long one = (long) bias << fraction;
        long[] at = {0, 1L << fraction, 2L << fraction, one >> 1, one - (1L << fraction), one, one + (1L << fraction),
            one + (1L << (fraction - 1)), one + (3L << (fraction - 1)), ((long) bias + fraction - 1) << fraction,
            ((long) bias + fraction) << fraction, ((long) bias + fraction + 1) << fraction, (bias + 30L) << fraction,
            (bias + 31L) << fraction, (bias + 32L) << fraction, infinity - (1L << fraction), infinity};
        long sign = fraction == 23 ? Integer.MIN_VALUE : Long.MIN_VALUE;
        long[] all = new long[at.length * 6];
        int n = 0;
        for (long middle : at) {
            for (long by = -1; by <= 1; by++) {
                long amount = Math.max(0, Math.min(infinity, middle + by));
                all[n++] = amount;
                all[n++] = amount | sign;
            }
        }
        return all;
    }

    /** Exponents near one another are drawn often: else most sums and differences are plain. */
    private static void randomPair(int sort, int fraction, int exponentBits) {
        int most = (1 << exponentBits) - 1;
        int first = RANDOM.nextInt(most);
        int second = RANDOM.nextInt(4) == 0 ? RANDOM.nextInt(most) : first + RANDOM.nextInt(2 * fraction) - fraction;
        second = Math.max(0, Math.min(most - 1, second));
        pair(sort, random(sort, fraction, first), random(sort, fraction, second));
        int nearOne = most / 2 + RANDOM.nextInt(fraction + 12) - 3;
        pair(sort, random(sort, fraction, nearOne), random(sort, fraction, nearOne));
    }

    private static long random(int sort, int fraction, int exponent) {
        long digits = RANDOM.nextLong() & ((1L << fraction) - 1);
        int clear = RANDOM.nextInt(2 * fraction);
        if (clear < fraction) {
            digits = digits >> clear << clear;
        }
        long amount = ((long) exponent << fraction) + digits;
        long sign = sort == Bits.SINGLES ? Integer.MIN_VALUE : Long.MIN_VALUE;
        return RANDOM.nextBoolean() ? amount | sign : amount;
    }

    private static void pair(int sort, long a, long b) {
        WeatherMast m = new WeatherMast();
        m.mount(sort);
        m.read(0, a);
        m.read(0, b);
        for (int what = 0; what < 4; what++) {
            same(sort, "tell " + what, a, b, told(sort, what, a, b), m.tell(0, what));
        }
        same(sort, "whole", a, b, asInt(sort, b), m.whole(0));
        same(sort, "limits", a, b, notAbove(sort, a, b) ? 1 : 0, m.limits(0, a, b) ? 1 : 0);
        for (int step = 0; step < 8; step++) {
            WeatherMast s = new WeatherMast();
            s.mount(sort);
            s.step(0, step, b);
            same(sort, "step " + step, a, b, stepped(sort, step, a, b), s.read(0, a));
        }
    }

    private static void same(int sort, String what, long a, long b, long due, long got) {
        if (due == got) {
            Check.yes("", true);
        } else {
            Check.is("sort " + sort + ", " + what + " of " + Long.toHexString(a) + ", " + Long.toHexString(b), due, got);
        }
    }

    private static long told(int sort, int what, long a, long b) {
        if (sort == Bits.SINGLES) {
            float x = Float.intBitsToFloat((int) a);
            float y = Float.intBitsToFloat((int) b);
            float[] all = {Math.min(x, y), Math.max(x, y), x == y ? 0 : Math.abs(y - x), Math.abs(x) + Math.abs(y)};
            return Float.floatToRawIntBits(all[what]);
        }
        double x = Double.longBitsToDouble(a);
        double y = Double.longBitsToDouble(b);
        double[] all = {Math.min(x, y), Math.max(x, y), x == y ? 0 : Math.abs(y - x), Math.abs(x) + Math.abs(y)};
        return Double.doubleToRawLongBits(all[what]);
    }

    private static long asInt(int sort, long v) {
        return sort == Bits.SINGLES ? (int) Float.intBitsToFloat((int) v) : (int) Double.longBitsToDouble(v);
    }

    private static boolean notAbove(int sort, long a, long b) {
        return sort == Bits.SINGLES ? Float.intBitsToFloat((int) a) <= Float.intBitsToFloat((int) b)
                : Double.longBitsToDouble(a) <= Double.longBitsToDouble(b);
    }

    /** All steps of a single are exact, so they may be done on the double that it is. */
    private static long stepped(int sort, int step, long a, long b) {
        boolean single = sort == Bits.SINGLES;
        double v = single ? Float.intBitsToFloat((int) a) : Double.longBitsToDouble(a);
        double k = single ? Float.intBitsToFloat((int) b) : Double.longBitsToDouble(b);
        double[] all = {Math.abs(v), Math.max(v, k), Math.min(v, k), Math.floor(v), Math.ceil(v), Math.rint(v),
            Math.signum(v), Math.copySign(v, k)};
        return single ? Bits.f(all[step]) : Bits.d(all[step]);
    }
}
