import java.util.NoSuchElementException;

/**
 * A weather mast: instruments of four sorts give readings, which go through a chain of steps each
 * and are kept; least and greatest readings, swings, sums and alarms are told.
 *
 * <p>Numbers of all sorts are held as the bits that the face takes and answers. SINGLES and DOUBLES
 * are worked out on these bits alone, for LANGUAGE.md leaves no way from bits to a float and back.
 */
public final class WeatherMast {
    private static final int MOST_INSTRUMENTS = 8;
    private static final int MOST_STEPS = 6;

    // A power of two, so that a mask makes any count of readings a place that is in the row.
    private static final int MOST_KEPT = 16;

    private static final int LEAST_INT = 0x80000000;
    private static final int GREATEST_INT = 0x7fffffff;
    private static final long LEAST_LONG = 0x8000000000000000L;
    private static final long GREATEST_LONG = 0x7fffffffffffffffL;

    private static final int AMOUNT = 0;
    private static final int AT_LEAST = 1;
    private static final int AT_MOST = 2;
    private static final int DOWN = 3;
    private static final int UP = 4;
    private static final int NEAREST = 5;
    private static final int SIGN = 6;
    private static final int LIKE = 7;

    private static final int TELL_LEAST = 0;
    private static final int TELL_GREATEST = 1;
    private static final int TELL_SWING = 2;
    private static final int TELL_SUM = 3;

    private final Sort[] sorts;
    private final Instrument[] instruments;
    private int mounted;
    private int readingsEver;
    private int alarmsEver;
    private int stepsEver;

    public WeatherMast() {
        sorts = new Sort[] {new Wholes(true), new Wholes(false), new Floats(true), new Floats(false)};
        instruments = new Instrument[MOST_INSTRUMENTS];
    }

    public int mount(int sort) throws IllegalArgumentException, UnsupportedOperationException {
        Sort kind = findSort(sort);
        if (kind == null) {
            throw new IllegalArgumentException("no such sort");
        }
        if (mounted >= instruments.length) {
            throw new UnsupportedOperationException("the mast is full");
        }
        int number = mounted;
        instruments[number] = new Instrument(sort, kind);
        mounted = number + 1;
        return number;
    }

    public int step(int instrument, int step, long k)
            throws IndexOutOfBoundsException, IllegalArgumentException, IllegalStateException {
        Instrument it = findInstrument(instrument);
        if (it == null) {
            throw new IndexOutOfBoundsException("no such instrument");
        }
        if (!it.sort.hasStep(step)) {
            throw new IllegalArgumentException("no such step of this sort");
        }
        long told = it.sort.heard(k);
        if (takesK(step) && !it.sort.isNumber(told)) {
            throw new IllegalArgumentException("K is no number");
        }
        if (it.isChainFull()) {
            throw new IllegalStateException("the chain is full");
        }
        return it.lengthenChain(new Step(step, told, null));
    }

    public int follow(int instrument, int step, int other)
            throws IndexOutOfBoundsException, IllegalArgumentException, IllegalStateException {
        Instrument it = findInstrument(instrument);
        Instrument followed = findInstrument(other);
        if (it == null || followed == null) {
            throw new IndexOutOfBoundsException("no such instrument");
        }
        if (!it.sort.hasStep(step) || !takesK(step)) {
            throw new IllegalArgumentException("no such step with K of this sort");
        }
        if (it.sortNumber != followed.sortNumber) {
            throw new IllegalArgumentException("the other instrument is of another sort");
        }
        if (it.isChainFull()) {
            throw new IllegalStateException("the chain is full");
        }
        return it.lengthenChain(new Step(step, 0, followed));
    }

    public long read(int instrument, long bits) throws IndexOutOfBoundsException, IllegalArgumentException {
        Instrument it = findInstrument(instrument);
        if (it == null) {
            throw new IndexOutOfBoundsException("no such instrument");
        }
        long told = it.sort.heard(bits);
        if (!it.sort.isNumber(told)) {
            throw new IllegalArgumentException("the bits are no number");
        }
        long out = it.throughChain(told);
        it.keep(out);
        readingsEver++;
        stepsEver += it.steps;
        if (it.isBeyondLimits(out)) {
            it.alarmsGiven++;
            alarmsEver++;
        }
        return out;
    }

    public long reading(int instrument, int i) throws IndexOutOfBoundsException, NoSuchElementException {
        Instrument it = findInstrument(instrument);
        if (it == null) {
            throw new IndexOutOfBoundsException("no such instrument");
        }
        if (!it.isKept(i)) {
            throw new NoSuchElementException("no such reading is kept");
        }
        return it.keptAt(i);
    }

    public long tell(int instrument, int what)
            throws IndexOutOfBoundsException, IllegalArgumentException, NoSuchElementException {
        Instrument it = findInstrument(instrument);
        if (it == null) {
            throw new IndexOutOfBoundsException("no such instrument");
        }
        if (what < TELL_LEAST || what > TELL_SUM) {
            throw new IllegalArgumentException("nothing such is told");
        }
        if (!it.hasRead()) {
            throw new NoSuchElementException("nothing was read");
        }
        switch (what) {
            case TELL_LEAST:
                return it.least;
            case TELL_GREATEST:
                return it.greatest;
            case TELL_SWING:
                return it.swing;
            default:
                return it.sum;
        }
    }

    public int whole(int instrument) throws IndexOutOfBoundsException, NoSuchElementException {
        Instrument it = findInstrument(instrument);
        if (it == null) {
            throw new IndexOutOfBoundsException("no such instrument");
        }
        if (!it.hasRead()) {
            throw new NoSuchElementException("nothing was read");
        }
        return it.sort.asInt(it.latest);
    }

    public boolean limits(int instrument, long low, long high)
            throws IndexOutOfBoundsException, IllegalArgumentException {
        Instrument it = findInstrument(instrument);
        if (it == null) {
            throw new IndexOutOfBoundsException("no such instrument");
        }
        long lowTold = it.sort.heard(low);
        long highTold = it.sort.heard(high);
        if (!it.sort.isNumber(lowTold) || !it.sort.isNumber(highTold)) {
            throw new IllegalArgumentException("a limit is no number");
        }
        it.low = lowTold;
        it.high = highTold;
        return !it.sort.isAbove(lowTold, highTold);
    }

    public long widest(int sort) throws IllegalArgumentException, NoSuchElementException {
        Sort kind = findSort(sort);
        if (kind == null) {
            throw new IllegalArgumentException("no such sort");
        }
        boolean any = false;
        long widest = 0;
        for (Instrument it : instruments) {
            if (it != null && it.sortNumber == sort && it.hasRead()) {
                widest = any ? kind.greater(widest, it.swing) : it.swing;
                any = true;
            }
        }
        if (!any) {
            throw new NoSuchElementException("no instrument of this sort has read");
        }
        return widest;
    }

    public int forget(int instrument) throws IndexOutOfBoundsException {
        Instrument it = findInstrument(instrument);
        if (it == null) {
            throw new IndexOutOfBoundsException("no such instrument");
        }
        int gone = it.readings;
        it.loseReadings();
        return gone;
    }

    public int alarms(int instrument) throws IndexOutOfBoundsException {
        Instrument it = findInstrument(instrument);
        if (it == null) {
            throw new IndexOutOfBoundsException("no such instrument");
        }
        return it.alarmsGiven;
    }

    public int count(int what) {
        switch (what) {
            case 0:
                return mounted;
            case 1:
                return readingsEver;
            case 2:
                return alarmsEver;
            case 3:
                return stepsEver;
            default:
                return -1;
        }
    }

    private Sort findSort(int number) {
        return number < 0 || number >= sorts.length ? null : sorts[number];
    }

    private Instrument findInstrument(int number) {
        return number < 0 || number >= instruments.length ? null : instruments[number];
    }

    private static boolean takesK(int step) {
        return step == AT_LEAST || step == AT_MOST || step == LIKE;
    }

    /** A step of a chain. Its K is looked up at each reading, for what it follows may have moved. */
    private static final class Step {
        final int number;
        final long told;
        final Instrument followed;

        Step(int number, long told, Instrument followed) {
            this.number = number;
            this.told = told;
            this.followed = followed;
        }

        long currentK() {
            return followed == null ? told : followed.latest;
        }
    }

    private static final class Instrument {
        final int sortNumber;
        final Sort sort;
        final Step[] chain;
        final long[] kept;
        int steps;
        long low;
        long high;
        int alarmsGiven;
        int readings;
        // 0 while nothing was read: so it is the K that a following step is promised then.
        long latest;
        long least;
        long greatest;
        long swing;
        long sum;

        Instrument(int sortNumber, Sort sort) {
            this.sortNumber = sortNumber;
            this.sort = sort;
            chain = new Step[MOST_STEPS];
            kept = new long[MOST_KEPT];
            low = sort.lowest;
            high = sort.highest;
        }

        boolean isChainFull() {
            return steps >= chain.length;
        }

        int lengthenChain(Step step) {
            if (!isChainFull()) {
                chain[steps] = step;
                steps++;
            }
            return steps;
        }

        long throughChain(long number) {
            long v = number;
            for (Step step : chain) {
                if (step != null) {
                    v = sort.afterStep(step.number, v, step.currentK());
                }
            }
            return v;
        }

        void keep(long number) {
            boolean first = !hasRead();
            least = first ? number : sort.lesser(least, number);
            greatest = first ? number : sort.greater(greatest, number);
            swing = first ? 0 : sort.apart(number, latest);
            sum = sort.addAmounts(sum, sort.amount(number));
            latest = number;
            kept[readings & (MOST_KEPT - 1)] = number;
            readings++;
        }

        boolean hasRead() {
            return readings > 0;
        }

        boolean isBeyondLimits(long number) {
            return sort.isAbove(low, number) || sort.isAbove(number, high);
        }

        boolean isKept(int back) {
            return back >= 0 && back < MOST_KEPT && back < readings;
        }

        long keptAt(int back) {
            return kept[(readings - 1 - back) & (MOST_KEPT - 1)];
        }

        void loseReadings() {
            readings = 0;
            latest = 0;
            least = 0;
            greatest = 0;
            swing = 0;
            sum = 0;
        }
    }

    /** What numbers of one sort do. A narrow sort's 32 bits are held as an int made longer. */
    private abstract static class Sort {
        final boolean narrow;
        // Of a narrow sort all bits above stand in it, too, so that a number is below 0 where it is set.
        final long signBit;
        final long lowest;
        final long highest;

        Sort(boolean narrow, long lowest, long highest) {
            this.narrow = narrow;
            this.signBit = narrow ? LEAST_INT : LEAST_LONG;
            this.lowest = lowest;
            this.highest = highest;
        }

        abstract boolean isNumber(long v);

        abstract boolean hasStep(int step);

        abstract long amount(long v);

        /** Orders numbers where the GREATER or LESSER is told. */
        abstract long rank(long v);

        /** Orders numbers where one is ABOVE or BELOW: the same for numbers that are alike. */
        abstract long place(long v);

        abstract long addAmounts(long a, long b);

        /** The amount of a less b. */
        abstract long apart(long a, long b);

        abstract int asInt(long v);

        abstract long afterFurtherStep(int step, long v, long k);

        final long heard(long bits) {
            return narrow ? (long) (int) bits : bits;
        }

        final long greater(long a, long b) {
            return rank(a) >= rank(b) ? a : b;
        }

        final long lesser(long a, long b) {
            return rank(a) <= rank(b) ? a : b;
        }

        final boolean isAbove(long a, long b) {
            return place(a) > place(b);
        }

        final long afterStep(int step, long v, long k) {
            switch (step) {
                case AMOUNT:
                    return amount(v);
                case AT_LEAST:
                    return greater(v, k);
                case AT_MOST:
                    return lesser(v, k);
                default:
                    return afterFurtherStep(step, v, k);
            }
        }
    }

    /** COUNTS (narrow) and TALLIES. */
    private static final class Wholes extends Sort {
        Wholes(boolean narrow) {
            super(narrow, narrow ? LEAST_INT : LEAST_LONG, narrow ? GREATEST_INT : GREATEST_LONG);
        }

        @Override
        boolean isNumber(long v) {
            return true;
        }

        @Override
        boolean hasStep(int step) {
            return step >= AMOUNT && step <= AT_MOST;
        }

        @Override
        long amount(long v) {
            return v < 0 ? heard(-v) : v;
        }

        @Override
        long rank(long v) {
            return v;
        }

        @Override
        long place(long v) {
            return v;
        }

        @Override
        long addAmounts(long a, long b) {
            return heard(a + b);
        }

        @Override
        long apart(long a, long b) {
            return amount(heard(a - b));
        }

        @Override
        int asInt(long v) {
            return (int) Math.max(LEAST_INT, Math.min(GREATEST_INT, v));
        }

        @Override
        long afterFurtherStep(int step, long v, long k) {
            return v;
        }
    }

    /**
     * SINGLES (narrow) and DOUBLES: a sign, an exponent, and the fraction's bits. Amounts have no
     * sign bit, and so are ordered, stepped through and carried over into the exponent as longs.
     */
    private static final class Floats extends Sort {
        private static final long SINGLE_INFINITY = 0x7f800000L;
        private static final long DOUBLE_INFINITY = 0x7ff0000000000000L;

        // Three bits behind the fraction are what rounding a sum or difference rightly needs.
        private static final int GUARD_BITS = 3;
        private static final int GUARD_MASK = 7;
        private static final int GUARD_HALF = 4;

        private final int fractionBits;
        private final int bias;
        // The 1 ahead of the fraction, which the form leaves out.
        private final long leadingOne;
        private final long half;
        private final long one;
        private final long infinity;

        Floats(boolean narrow) {
            super(narrow, narrow ? SINGLE_INFINITY | LEAST_INT : DOUBLE_INFINITY | LEAST_LONG,
                    narrow ? SINGLE_INFINITY : DOUBLE_INFINITY);
            fractionBits = narrow ? 23 : 52;
            bias = narrow ? 127 : 1023;
            leadingOne = 1L << fractionBits;
            half = (bias - 1L) << fractionBits;
            one = (long) bias << fractionBits;
            infinity = narrow ? SINGLE_INFINITY : DOUBLE_INFINITY;
        }

        @Override
        boolean isNumber(long v) {
            return amount(v) <= infinity;
        }

        @Override
        boolean hasStep(int step) {
            return step >= AMOUNT && step <= LIKE;
        }

        @Override
        long amount(long v) {
            return v & ~signBit;
        }

        @Override
        long rank(long v) {
            return v < 0 ? -1 - amount(v) : v;
        }

        @Override
        long place(long v) {
            return v < 0 ? -amount(v) : v;
        }

        @Override
        long addAmounts(long a, long b) {
            long big = Math.max(a, b);
            long small = Math.min(a, b);
            if (big == infinity) {
                return infinity;
            }
            int exponent = exponent(big);
            long digits = guardedDigits(big) + shiftedDown(guardedDigits(small), exponent - exponent(small));
            boolean carried = digits >= leadingOne << (GUARD_BITS + 1);
            return carried ? rounded(exponent + 1, shiftedDown(digits, 1)) : rounded(exponent, digits);
        }

        @Override
        long apart(long a, long b) {
            // Two infinities that are alike have no difference, but their swing is promised: 0.
            if (place(a) == place(b)) {
                return 0;
            }
            boolean signsDiffer = (a < 0) != (b < 0);
            return signsDiffer ? addAmounts(amount(a), amount(b)) : differenceOfAmounts(amount(a), amount(b));
        }

        /** Of two amounts that are not alike: else there would be no digit to bring ahead. */
        private long differenceOfAmounts(long a, long b) {
            long big = Math.max(a, b);
            long small = Math.min(a, b);
            if (big == infinity) {
                return infinity;
            }
            int exponent = exponent(big);
            long digits = guardedDigits(big) - shiftedDown(guardedDigits(small), exponent - exponent(small));
            int room = Long.numberOfLeadingZeros(digits) - Long.numberOfLeadingZeros(leadingOne << GUARD_BITS);
            int shift = Math.min(room, exponent - 1);
            return rounded(exponent - shift, digits << shift);
        }

        /** Numbers below the least normal one share its exponent, and have no leading 1. */
        private int exponent(long amount) {
            return amount < leadingOne ? 1 : (int) (amount >> fractionBits);
        }

        private long digits(long amount) {
            return amount < leadingOne ? amount : (amount & (leadingOne - 1)) | leadingOne;
        }

        private long guardedDigits(long amount) {
            return digits(amount) << GUARD_BITS;
        }

        /** What is shifted out leaves a 1 in the last place, so that rounding knows of it. */
        private static long shiftedDown(long digits, int places) {
            if (places >= 64) {
                return digits == 0 ? 0 : 1;
            }
            long left = digits >> places;
            return left << places == digits ? left : left | 1;
        }

        /** The nearest amount, of two the even one; a carry makes the exponent the next one by itself. */
        private long rounded(int exponent, long guarded) {
            if (exponent > 2 * bias) {
                return infinity;
            }
            long digits = guarded >> GUARD_BITS;
            long rest = guarded & GUARD_MASK;
            boolean up = rest > GUARD_HALF || (rest == GUARD_HALF && (digits & 1) == 1);
            // The leading 1, where there is one, adds the 1 that is taken from the exponent here.
            return ((exponent - 1L) << fractionBits) + digits + (up ? 1 : 0);
        }

        @Override
        int asInt(long v) {
            long amount = amount(v);
            if (amount < one) {
                return 0;
            }
            int power = exponent(amount) - bias;
            if (power >= 31) {
                return v < 0 ? LEAST_INT : GREATEST_INT;
            }
            int shift = power - fractionBits;
            long cut = shift >= 0 ? digits(amount) << shift : digits(amount) >> -shift;
            return (int) (v < 0 ? -cut : cut);
        }

        @Override
        long afterFurtherStep(int step, long v, long k) {
            switch (step) {
                case DOWN:
                    return withSignOf(v, v < 0 ? wholeNotBelow(amount(v)) : wholeNotAbove(amount(v)));
                case UP:
                    return withSignOf(v, v < 0 ? wholeNotAbove(amount(v)) : wholeNotBelow(amount(v)));
                case NEAREST:
                    return withSignOf(v, wholeNearest(amount(v)));
                case SIGN:
                    return amount(v) == 0 ? v : withSignOf(v, one);
                case LIKE:
                    return withSignOf(k, amount(v));
                default:
                    return v;
            }
        }

        private long withSignOf(long signed, long amount) {
            return signed < 0 ? amount | signBit : amount;
        }

        /** How many of an amount's bits stand behind the point, of an amount of 1 and more. */
        private int bitsBehindPoint(long amount) {
            int behind = fractionBits + bias - (int) (amount >> fractionBits);
            return behind > 0 ? behind : 0;
        }

        private long wholeNotAbove(long amount) {
            if (amount < one) {
                return 0;
            }
            int behind = bitsBehindPoint(amount);
            return amount >> behind << behind;
        }

        private long wholeNotBelow(long amount) {
            long below = wholeNotAbove(amount);
            if (below == amount) {
                return amount;
            }
            return amount < one ? one : below + (1L << bitsBehindPoint(amount));
        }

        private long wholeNearest(long amount) {
            if (amount < one) {
                return amount > half ? one : 0;
            }
            int behind = bitsBehindPoint(amount);
            long unit = 1L << behind;
            long below = amount >> behind << behind;
            long twiceRest = (amount - below) * 2;
            // From 1 to below 2 this is the exponent's last bit: the bias, which is odd as 1 is.
            boolean odd = (below & unit) != 0;
            return twiceRest > unit || (twiceRest == unit && odd) ? below + unit : below;
        }
    }
}
