/** Numbers as the bits that the mast takes and answers. */
final class Bits {
    static final int COUNTS = 0;
    static final int TALLIES = 1;
    static final int SINGLES = 2;
    static final int DOUBLES = 3;

    private Bits() {}

    static long f(double v) {
        return Float.floatToRawIntBits((float) v);
    }

    static long d(double v) {
        return Double.doubleToRawLongBits(v);
    }

    static long of(int sort, double v) {
        return sort == SINGLES ? f(v) : sort == DOUBLES ? d(v) : (long) v;
    }
}
