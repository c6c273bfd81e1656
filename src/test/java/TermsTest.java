import static java.lang.Double.NEGATIVE_INFINITY;
import static java.lang.Double.POSITIVE_INFINITY;

/** The boundary cases of 'What it is' and of 'Terms': each sentence has a method of its own. */
public final class TermsTest {
    private static final Class<IllegalArgumentException> ARGUMENT = IllegalArgumentException.class;
    private static final long INT_MIN = Integer.MIN_VALUE;
    private static final long INT_MAX = Integer.MAX_VALUE;
    private static final long INF_F = Bits.f(POSITIVE_INFINITY);
    private static final long INF_D = Bits.d(POSITIVE_INFINITY);
    private static final long[] LEAST = {INT_MIN, Long.MIN_VALUE, Bits.f(NEGATIVE_INFINITY), Bits.d(NEGATIVE_INFINITY)};
    private static final long[] GREATEST = {INT_MAX, Long.MAX_VALUE, INF_F, INF_D};

    // The first and the last bits of each sign that are no number, and some between.
    private static final long[] NO_SINGLES = {0x7f800001L, 0x7fbfffffL, 0x7fc00000L, 0x7fffffffL, 0xff800001L, 0xffc00000L,
        0xffffffffL, -1L, 0x123456787fc00000L, 0xff800001};
    private static final long[] NO_DOUBLES = {INF_D + 1, 0x7ff00000ffffffffL, 0x7ff7ffffffffffffL, 0x7ff8000000000000L,
        Long.MAX_VALUE, 0xfff0000000000001L, 0xfff8000000000000L, -1L};

    public static void main(String[] args) {
        readingsUpToTheLastCall();
        alarmsUpToTheLastCall();
        stepsUpToTheLastCall();
        sumsUpToTheLastCall();
        refusedUpToTheLastCall();
        countsWrap();
        talliesWrap();
        sumsAreRounded();
        swingsAreRounded();
        farApartIsRounded();
        smallestAreExact();
        beyondTheGreatest();
        singlesAreNotDoubles();
        bitsOfCounts();
        bitsOfTallies();
        bitsOfSingles();
        bitsOfDoubles();
        answersWithTheirSign();
        noNumberIsRefused();
        infinitiesAreNumbers();
        zerosWhereTheGreaterIsTold();
        zerosWhereSomethingIsAbove();
        numberedAsMounted();
        firstLimits();
        kTold();
        kOfAnother();
        kOfAnotherThatHasNone();
        kOfTheSame();
        amount();
        atLeastAtMost();
        furtherSteps();
        down();
        up();
        nearest();
        wholeAlready();
        zeroFromBelow();
        sign();
        like();
        firstStepFirst();
        whatComesOutIsRead();
        sixteenAreKept();
        leastAndGreatestOfAll();
        swingOfFirst();
        swingOfAlike();
        swingWraps();
        sumBeginsWithZero();
        alarmAtTheLimits();
        Check.end();
    }

    // What it is: the last of 512 calls is answered as the first one is.

    private static final String CALLS = "An object is used for at most 512 calls after it has been made";

    private static void readingsUpToTheLastCall() {
        Check.promised(CALLS);
        for (int sort = 0; sort < 4; sort++) {
            WeatherMast m = Masts.of(sort);
            for (int n = 1; n <= 510; n++) {
                Check.is("read", Bits.of(sort, n), m.read(0, Bits.of(sort, n)));
            }
            Check.is("readings ever", 510, m.count(1));
        }
        WeatherMast f = Masts.of(0);
        Masts.reads(f, 0, new long[510]);
        Check.is("forget", 510, f.forget(0));
        WeatherMast k = Masts.of(1);
        for (int n = 1; n <= 495; n++) {
            k.read(0, n);
        }
        for (int i = 0; i < 16; i++) {
            Check.is("reading", 495 - i, k.reading(0, i));
        }
    }

    private static void alarmsUpToTheLastCall() {
        Check.promised(CALLS);
        WeatherMast m = Masts.of(0);
        m.limits(0, 1, 1);
        Masts.reads(m, 0, new long[508]);
        Check.is("alarms", 508, m.alarms(0));
        Check.is("alarms ever", 508, m.count(2));
    }

    private static void stepsUpToTheLastCall() {
        Check.promised(CALLS);
        WeatherMast m = Masts.of(0, 1, 2, 3, 0, 1, 2, 3);
        for (int i = 0; i < 8; i++) {
            for (int n = 1; n <= 6; n++) {
                Check.is("step", n, m.step(i, 0, 0));
            }
        }
        for (int n = 0; n < 455; n++) {
            m.read(n % 8, n);
        }
        Check.is("steps ever", 455 * 6, m.count(3));
    }

    private static void sumsUpToTheLastCall() {
        Check.promised(CALLS);
        WeatherMast m = Masts.of(0);
        long due = 0;
        for (int n = 0; n < 510; n++) {
            m.read(0, INT_MAX - n);
            due += INT_MAX - n;
        }
        Check.is("a sum that wraps often", (int) due, m.tell(0, 3));
        WeatherMast d = Masts.of(3);
        double sum = 0;
        for (int n = 0; n < 510; n++) {
            d.read(0, Bits.d(-0.1 * n));
            sum += 0.1 * n;
        }
        Check.is("a sum that is rounded often", Bits.d(sum), d.tell(0, 3));
    }

    private static void refusedUpToTheLastCall() {
        Check.promised(CALLS);
        WeatherMast m = new WeatherMast();
        for (int n = 1; n < 512; n++) {
            Check.refuses("mount", ARGUMENT, () -> m.mount(4));
        }
        Check.is("the 512th call", 0, m.mount(3));
    }

    // NUMBERS

    private static void countsWrap() {
        Check.promised("0 COUNTS (32 bits, they wrap)");
        Masts.tells("at the edge", Masts.that(0, INT_MAX, 0), 0, INT_MAX, INT_MAX, INT_MAX);
        Masts.tells("just beyond", Masts.that(0, INT_MAX, -1), -1, INT_MAX, INT_MIN, INT_MIN);
        Masts.tells("once round", Masts.that(0, INT_MIN, INT_MIN), INT_MIN, INT_MIN, 0, 0);
        Masts.tells("both ends", Masts.that(0, INT_MAX, INT_MIN), INT_MIN, INT_MAX, 1, -1);
        Masts.tells("both ends", Masts.that(0, INT_MIN, INT_MAX), INT_MIN, INT_MAX, 1, -1);
        Check.is("SUM, once round and on", -2, Masts.that(0, INT_MAX, INT_MAX).tell(0, 3));
        Check.is("SUM, once round and on", 0, Masts.that(0, INT_MAX, INT_MAX, 2).tell(0, 3));
    }

    private static void talliesWrap() {
        Check.promised("1 TALLIES (64 bits, they wrap)");
        long min = Long.MIN_VALUE;
        long max = Long.MAX_VALUE;
        Masts.tells("beyond 32 bits", Masts.that(1, INT_MAX, -1), -1, INT_MAX, INT_MAX + 1, INT_MAX + 1);
        Masts.tells("at the edge", Masts.that(1, max, 0), 0, max, max, max);
        Masts.tells("just beyond", Masts.that(1, max, -1), -1, max, min, min);
        Masts.tells("once round", Masts.that(1, min, min), min, min, 0, 0);
        Masts.tells("both ends", Masts.that(1, max, min), min, max, 1, -1);
        Masts.tells("both ends", Masts.that(1, min, max), min, max, 1, -1);
    }

    private static final String ROUNDED = "what is worked out is rounded to the nearest one, a half to the even one";

    private static void sumIs(int sort, double due, double a, double b) {
        long got = Masts.that(sort, Bits.of(sort, a), Bits.of(sort, b)).tell(0, 3);
        Check.is("SUM of sort " + sort + ": " + a + ", " + b, Bits.of(sort, due), got);
        long back = Masts.that(sort, Bits.of(sort, b), Bits.of(sort, -a)).tell(0, 3);
        Check.is("SUM of sort " + sort + ": " + b + ", " + -a, Bits.of(sort, due), back);
    }

    private static void sumsAreRounded() {
        Check.promised(ROUNDED);
        double s = 1 << 24;
        sumIs(2, s, s, 1);
        sumIs(2, s, s, Math.nextDown(1f));
        sumIs(2, s + 2, s, Math.nextUp(1f));
        sumIs(2, s + 2, s, 1.25);
        sumIs(2, s + 2, s, Math.nextUp(1.25f));
        sumIs(2, s + 4, s + 2, 1);
        sumIs(2, s + 2, s + 2, Math.nextDown(1f));
        sumIs(2, s + 4, s + 4, 1);
        sumIs(2, s, s, Float.MIN_VALUE);
        sumIs(2, 2 * s, 2 * s - 1, 1);
        sumIs(2, 2 * s, 2 * s - 2, 1.5f);
        double d = 1L << 53;
        sumIs(3, d, d, 1);
        sumIs(3, d, d, Math.nextDown(1.0));
        sumIs(3, d + 2, d, Math.nextUp(1.0));
        sumIs(3, d + 2, d, 1.25);
        sumIs(3, d + 2, d, Math.nextUp(1.25));
        sumIs(3, d + 4, d + 2, 1);
        sumIs(3, d + 2, d + 2, Math.nextDown(1.0));
        sumIs(3, d + 4, d + 4, 1);
        sumIs(3, d, d, Double.MIN_VALUE);
        sumIs(3, 2 * d, 2 * d - 2, 1.5);
        sumIs(3, 0.30000000000000004, 0.1, 0.2);
    }

    private static void swingIs(int sort, double due, double a, double b) {
        double[][] pairs = {{a, b}, {b, a}, {-a, -b}, {-b, -a}};
        for (double[] pair : pairs) {
            long got = Masts.that(sort, Bits.of(sort, pair[0]), Bits.of(sort, pair[1])).tell(0, 2);
            Check.is("SWING of sort " + sort + ": " + pair[0] + ", " + pair[1], Bits.of(sort, due), got);
        }
    }

    private static void swingsAreRounded() {
        Check.promised(ROUNDED);
        double s = 1.0 / (1 << 25);
        swingIs(2, 1, 1, s);
        swingIs(2, Math.nextDown(1f), 1, Math.nextUp((float) s));
        swingIs(2, 1, 1, Math.nextDown((float) s));
        swingIs(2, Math.nextDown(1f), 1, 2 * s);
        swingIs(2, 1 - 4 * s, 1 - 2 * s, s);
        swingIs(2, 1, 1, Float.MIN_VALUE);
        swingIs(2, 1 << 24, 1 << 24, -1);
        swingIs(2, (1 << 24) + 4, (1 << 24) + 2, -1);
        double d = 1.0 / (1L << 54);
        swingIs(3, 1, 1, d);
        swingIs(3, Math.nextDown(1.0), 1, Math.nextUp(d));
        swingIs(3, 1, 1, Math.nextDown(d));
        swingIs(3, Math.nextDown(1.0), 1, 2 * d);
        swingIs(3, 1 - 4 * d, 1 - 2 * d, d);
        swingIs(3, 1, 1, Double.MIN_VALUE);
        swingIs(3, 1L << 53, 1L << 53, -1);
        swingIs(3, (1L << 53) + 4, (1L << 53) + 2, -1);
    }

    /** However far below the greater one the smaller one stands, it is not lost or taken for a nearer one. */
    private static void farApartIsRounded() {
        Check.promised(ROUNDED);
        for (int apart = 0; apart <= 200; apart++) {
            for (double one : new double[] {1, 1.5, 1 + 1.0 / (1 << 23)}) {
                float f = (float) Math.scalb(1.0, apart - 90);
                float g = (float) Math.scalb(one, -90);
                sumIs(2, f + g, f, g);
                swingIs(2, Math.abs(f - g), f, g);
                double d = Math.scalb(1.0, apart - 90);
                double e = Math.scalb(one, -90);
                sumIs(3, d + e, d, e);
                swingIs(3, Math.abs(d - e), d, e);
            }
        }
    }

    private static void smallestAreExact() {
        Check.promised(ROUNDED);
        float f = Float.MIN_VALUE;
        sumIs(2, 2 * f, f, f);
        sumIs(2, Float.MIN_NORMAL, Float.MIN_NORMAL - f, f);
        swingIs(2, f, 2 * f, f);
        swingIs(2, f, Float.MIN_NORMAL, Float.MIN_NORMAL - f);
        swingIs(2, f, Float.MIN_NORMAL + f, Float.MIN_NORMAL);
        swingIs(2, Float.MIN_NORMAL - f, Float.MIN_NORMAL, f);
        swingIs(2, f, 0, -f);
        double d = Double.MIN_VALUE;
        sumIs(3, 2 * d, d, d);
        sumIs(3, Double.MIN_NORMAL, Double.MIN_NORMAL - d, d);
        swingIs(3, d, 2 * d, d);
        swingIs(3, d, Double.MIN_NORMAL, Double.MIN_NORMAL - d);
        swingIs(3, d, Double.MIN_NORMAL + d, Double.MIN_NORMAL);
        swingIs(3, Double.MIN_NORMAL - d, Double.MIN_NORMAL, d);
        swingIs(3, d, 0, -d);
    }

    private static void beyondTheGreatest() {
        Check.promised(ROUNDED);
        float f = Float.MAX_VALUE;
        float halfStep = Math.ulp(f) / 2;
        sumIs(2, POSITIVE_INFINITY, f, halfStep);
        sumIs(2, f, f, Math.nextDown(halfStep));
        sumIs(2, POSITIVE_INFINITY, f, f);
        swingIs(2, POSITIVE_INFINITY, f, -halfStep);
        swingIs(2, f, f, -Math.nextDown(halfStep));
        swingIs(2, f, f, halfStep / 2);
        double d = Double.MAX_VALUE;
        double half = Math.ulp(d) / 2;
        sumIs(3, POSITIVE_INFINITY, d, half);
        sumIs(3, d, d, Math.nextDown(half));
        sumIs(3, POSITIVE_INFINITY, d, d);
        swingIs(3, POSITIVE_INFINITY, d, -half);
        swingIs(3, d, d, -Math.nextDown(half));
        swingIs(3, d, d, half / 2);
    }

    private static void singlesAreNotDoubles() {
        Check.promised("2 SINGLES and 3 DOUBLES (IEEE 754, of 32 and 64 bits");
        long big = Bits.f(1 << 24);
        Check.is("each sum is a single", big, Masts.that(2, big, Bits.f(1), Bits.f(1)).tell(0, 3));
        Check.is("each sum is a single", Bits.f((1 << 24) + 2), Masts.that(2, Bits.f(1), Bits.f(1), big).tell(0, 3));
        Check.is("a sum of doubles", Bits.d((1 << 24) + 2), Masts.that(3, Bits.d(1 << 24), Bits.d(1), Bits.d(1)).tell(0, 3));
    }

    // BITS

    private static void bitsOfCounts() {
        Check.promised("a COUNT is the lowest 32 bits that are told");
        WeatherMast m = Masts.of(0);
        Check.is("read", 0, m.read(0, 1L << 32));
        Check.is("read", -1, m.read(0, 0xffffffffL));
        Check.is("read", INT_MIN, m.read(0, 0x80000000L));
        Check.is("read", INT_MAX, m.read(0, 0xffffffff7fffffffL));
        Check.is("read", 0, m.read(0, Long.MIN_VALUE));
        Check.is("read", -1, m.read(0, Long.MAX_VALUE));
        Check.is("K", -1, Masts.stepped(0, 1, 0x7fffffffffffffffL, -2));
        Check.is("K", 0, Masts.stepped(0, 2, 1L << 40, 5));
        Check.yes("LOW", m.limits(0, 1L << 32, 0));
        Check.yes("HIGH", !m.limits(0, 0, 0xffffffffL));
        m.read(0, -1);
        Check.is("alarms", 1, m.alarms(0));
        Check.is("no bits are refused", INF_F + 1, m.read(0, INF_F + 1));
        Check.is("no bits are refused", 1, m.read(0, INF_D + 1));
    }

    private static void bitsOfTallies() {
        Check.promised("a TALLY all 64");
        WeatherMast m = Masts.of(1);
        for (long bits : new long[] {1L << 32, 0xffffffffL, 0x80000000L, Long.MIN_VALUE, Long.MAX_VALUE, INF_D + 1, -1}) {
            Check.is("read", bits, m.read(0, bits));
            Check.is("reading", bits, m.reading(0, 0));
            Check.is("K", bits, Masts.stepped(1, 1, bits, Long.MIN_VALUE));
        }
        Check.yes("LOW", !m.limits(0, 1L << 32, 0));
        Check.yes("HIGH", m.limits(0, 0, 0xffffffffL));
        m.read(0, 0x100000000L);
        Check.is("alarms", 1, m.alarms(0));
    }

    private static void bitsOfSingles() {
        Check.promised("of a SINGLE its form's 32 bits are the lowest ones that are told");
        WeatherMast m = Masts.of(2);
        Check.is("read", Bits.f(1.5), m.read(0, 0xffffffff00000000L | Bits.f(1.5)));
        Check.is("read", Bits.f(-1.5), m.read(0, Bits.f(-1.5) & 0xffffffffL));
        Check.is("read", Bits.f(-0.0), m.read(0, 0x80000000L));
        Check.is("read", 0, m.read(0, INF_D));
        Check.is("read", 1, m.read(0, INF_D + 1));
        Check.is("K", Bits.f(-1.5), Masts.stepped(2, 1, Bits.f(-1.5) & 0xffffffffL, Bits.f(-2)));
        Check.is("K", Bits.f(1), Masts.stepped(2, 2, 0x7ff8000000000000L | Bits.f(1), Bits.f(2)));
        Check.yes("LOW", m.limits(0, Long.MIN_VALUE | Bits.f(1), Bits.f(1)));
        Check.yes("HIGH", !m.limits(0, 0, Bits.f(-1) & 0xffffffffL));
    }

    private static void bitsOfDoubles() {
        Check.promised("of a DOUBLE its form's 64");
        WeatherMast m = Masts.of(3);
        for (long bits : new long[] {1, 0xffffffffL, 0x80000000L, INF_D - 1, INF_F + 1, Bits.d(-0.1), Long.MIN_VALUE + 1}) {
            Check.is("read", bits, m.read(0, bits));
            Check.is("reading", bits, m.reading(0, 0));
            Check.is("K", bits, Masts.stepped(3, 1, bits, Bits.d(NEGATIVE_INFINITY)));
        }
        Check.yes("LOW", !m.limits(0, 0x80000000L, 0x7fffffffL));
        Check.yes("HIGH", m.limits(0, 0x7fffffffL, 0x80000000L));
    }

    private static void answersWithTheirSign() {
        Check.promised("COUNTS and SINGLES are answered as ints are that are made longer, with their sign");
        long unsigned = 0x80000000L;
        WeatherMast c = Masts.of(0);
        Check.is("read", INT_MIN, c.read(0, unsigned));
        Check.is("reading", INT_MIN, c.reading(0, 0));
        Masts.tells("a count", c, INT_MIN, INT_MIN, 0, INT_MIN);
        c.read(0, 0);
        Check.is("SWING", INT_MIN, c.tell(0, 2));
        Check.is("widest", INT_MIN, c.widest(0));
        WeatherMast s = Masts.of(2);
        Check.is("read", INT_MIN, s.read(0, unsigned));
        Check.is("reading", INT_MIN, s.reading(0, 0));
        Masts.tells("a single", s, INT_MIN, INT_MIN, 0, 0);
        Check.is("DOWN", Bits.f(-1), Masts.stepped(2, 3, 0, unsigned + 1));
        Check.is("LIKE", INT_MIN, Masts.stepped(2, 7, unsigned, 0));
        Check.is("SIGN", Bits.f(-1), Masts.stepped(2, 6, 0, unsigned + 1));
    }

    private static void noNumberIsRefused() {
        Check.promised("Bits of a SINGLE or DOUBLE that are no number are refused wherever they come");
        for (int sort = 2; sort < 4; sort++) {
            WeatherMast m = Masts.of(sort);
            long one = Bits.of(sort, 1);
            for (long bits : sort == 2 ? NO_SINGLES : NO_DOUBLES) {
                String what = ": sort " + sort + ", " + Long.toHexString(bits);
                Check.refuses("read" + what, ARGUMENT, () -> m.read(0, bits));
                Check.refuses("AT LEAST" + what, ARGUMENT, () -> m.step(0, 1, bits));
                Check.refuses("AT MOST" + what, ARGUMENT, () -> m.step(0, 2, bits));
                Check.refuses("LIKE" + what, ARGUMENT, () -> m.step(0, 7, bits));
                Check.refuses("LOW" + what, ARGUMENT, () -> m.limits(0, bits, one));
                Check.refuses("HIGH" + what, ARGUMENT, () -> m.limits(0, one, bits));
                Check.refuses("both" + what, ARGUMENT, () -> m.limits(0, bits, bits));
            }
        }
    }

    private static void infinitiesAreNumbers() {
        Check.promised("infinities are numbers");
        for (int sort = 2; sort < 4; sort++) {
            long[] both = {LEAST[sort], GREATEST[sort]};
            for (long infinity : both) {
                WeatherMast m = Masts.of(sort);
                Check.is("read", infinity, m.read(0, infinity));
                Check.yes("limits", m.limits(0, infinity, infinity));
                m.read(0, infinity);
                Check.is("alarms", 0, m.alarms(0));
                for (int step : new int[] {1, 2, 7}) {
                    Check.yes("K", m.step(0, step, infinity) > 0);
                }
            }
            Check.is("AT LEAST", both[1], Masts.stepped(sort, 1, both[1], Bits.of(sort, 1)));
            Check.is("AT MOST", both[0], Masts.stepped(sort, 2, both[0], Bits.of(sort, 1)));
            Check.is("LIKE", Bits.of(sort, -1), Masts.stepped(sort, 7, both[0], Bits.of(sort, 1)));
            Check.is("the greatest that is not infinite", both[1] - 1, Masts.of(sort).read(0, both[1] - 1));
        }
    }

    private static void zerosWhereTheGreaterIsTold() {
        Check.promised("-0 is below 0 where the GREATER or LESSER of two is told");
        for (int sort = 2; sort < 4; sort++) {
            long zero = 0;
            long minus = Bits.of(sort, -0.0);
            Check.is("AT LEAST 0", zero, Masts.stepped(sort, 1, zero, minus));
            Check.is("AT LEAST -0", zero, Masts.stepped(sort, 1, minus, zero));
            Check.is("AT LEAST -0 of -0", minus, Masts.stepped(sort, 1, minus, minus));
            Check.is("AT MOST 0", minus, Masts.stepped(sort, 2, zero, minus));
            Check.is("AT MOST -0", minus, Masts.stepped(sort, 2, minus, zero));
            Check.is("AT MOST 0 of 0", zero, Masts.stepped(sort, 2, zero, zero));
            Masts.tells("0, -0", Masts.that(sort, zero, minus), minus, zero, 0, 0);
            Masts.tells("-0, 0", Masts.that(sort, minus, zero), minus, zero, 0, 0);
            Masts.tells("-0, -0", Masts.that(sort, minus, minus), minus, minus, 0, 0);
            Masts.tells("0, 0", Masts.that(sort, zero, zero), zero, zero, 0, 0);
            long least = 1;
            Check.is("-0 is above what is below 0", minus, Masts.stepped(sort, 1, minus, minus | least));
            Check.is("0 is below what is above 0", zero, Masts.stepped(sort, 2, zero, least));
        }
    }

    private static void zerosWhereSomethingIsAbove() {
        Check.promised("and alike with it where something is ABOVE or BELOW something");
        for (int sort = 2; sort < 4; sort++) {
            long minus = Bits.of(sort, -0.0);
            long[] zeros = {0, minus};
            for (long low : zeros) {
                for (long high : zeros) {
                    WeatherMast m = Masts.of(sort);
                    Check.yes("LOW is not above HIGH", m.limits(0, low, high));
                    Masts.reads(m, 0, 0, minus);
                    Check.is("alarms", 0, m.alarms(0));
                    m.read(0, 1);
                    Check.is("above", 1, m.alarms(0));
                    m.read(0, minus | 1);
                    Check.is("below", 2, m.alarms(0));
                }
            }
        }
    }

    private static void numberedAsMounted() {
        Check.promised("Instruments are numbered from 0 on as they are mounted.");
        WeatherMast m = new WeatherMast();
        for (int n = 0; n < 8; n++) {
            Check.is("its number", n, m.mount(3 - n % 4));
            m.read(n, n);
            m.forget(n);
        }
        for (int n = 0; n < 8; n++) {
            Check.is("it is found by its number", n, m.read(n, n));
        }
        for (int n = 0; n < 8; n++) {
            Check.is("it has its own reading", n, m.reading(n, 0));
        }
    }

    private static void firstLimits() {
        Check.promised("limits LOW and HIGH (the least and the greatest number of its sort at first, infinities too)");
        for (int sort = 0; sort < 4; sort++) {
            WeatherMast m = Masts.of(sort);
            Masts.reads(m, 0, LEAST[sort], GREATEST[sort], 0);
            Check.is("alarms of sort " + sort, 0, m.alarms(0));
            Check.is("alarms ever", 0, m.count(2));
        }
    }

    // K

    private static void kTold() {
        Check.promised("some take a number K of the same sort, which was told with the step");
        WeatherMast m = Masts.of(0, 0);
        m.step(0, 1, 5);
        m.step(0, 2, 9);
        Masts.reads(m, 1, 7, 7);
        Check.is("too small", 5, m.read(0, 4));
        Check.is("at K", 5, m.read(0, 5));
        Check.is("between", 6, m.read(0, 6));
        Check.is("at K", 9, m.read(0, 9));
        Check.is("too large", 9, m.read(0, 10));
        m.forget(0);
        Check.is("after forget", 5, m.read(0, -1));
    }

    private static void kOfAnother() {
        Check.promised("or is the latest reading of another instrument");
        for (int sort = 0; sort < 4; sort++) {
            int s = sort;
            WeatherMast m = Masts.of(sort, sort);
            m.step(1, 2, Bits.of(sort, 50));
            m.follow(0, 1, 1);
            for (int n = 1; n <= 40; n++) {
                m.read(1, Bits.of(sort, n));
                Check.is("now", Bits.of(sort, n), m.read(0, LEAST[sort]));
            }
            m.read(1, Bits.of(sort, 60));
            Check.is("what came out", Bits.of(sort, 50), m.read(0, LEAST[sort]));
            if (sort > 1) {
                Check.refuses("read", ARGUMENT, () -> m.read(1, -1));
                Check.is("what was refused was not read", Bits.of(s, 50), m.read(0, LEAST[s]));
            }
        }
        WeatherMast ring = Masts.of(0, 0);
        ring.follow(0, 1, 1);
        ring.follow(1, 1, 0);
        Check.is("each the other", 3, ring.read(0, 3));
        Check.is("each the other", 3, ring.read(1, -3));
        Check.is("each the other", 8, ring.read(1, 8));
        Check.is("each the other", 8, ring.read(0, 2));
    }

    private static void kOfAnotherThatHasNone() {
        Check.promised("0 if it has none");
        for (int sort = 0; sort < 4; sort++) {
            for (int forgets = 0; forgets < 2; forgets++) {
                WeatherMast m = Masts.of(sort, sort, sort);
                m.follow(0, 1, 2);
                m.follow(1, 2, 2);
                if (forgets == 1) {
                    m.read(2, Bits.of(sort, 5));
                    m.forget(2);
                }
                Check.is("AT LEAST", 0, m.read(0, LEAST[sort]));
                Check.is("AT LEAST", GREATEST[sort], m.read(0, GREATEST[sort]));
                Check.is("AT MOST", 0, m.read(1, GREATEST[sort]));
                Check.is("AT MOST", LEAST[sort], m.read(1, LEAST[sort]));
            }
        }
        for (int sort = 2; sort < 4; sort++) {
            WeatherMast m = Masts.of(sort, sort, sort);
            m.follow(0, 7, 2);
            m.follow(1, 1, 2);
            Check.is("LIKE: it is not -0", Bits.of(sort, 3), m.read(0, Bits.of(sort, -3)));
            Check.is("AT LEAST: it is not -0", 0, m.read(1, Bits.of(sort, -0.0)));
        }
    }

    private static void kOfTheSame() {
        Check.promised("of the same instrument, too: the reading ahead");
        for (int sort = 0; sort < 4; sort++) {
            WeatherMast m = Masts.of(sort);
            m.step(0, 0, 0);
            m.follow(0, 2, 0);
            m.step(0, 1, Bits.of(sort, -9));
            Check.is("none ahead: 0", 0, m.read(0, Bits.of(sort, 4)));
            m.forget(0);
            Check.is("forgotten: 0", 0, m.read(0, Bits.of(sort, 4)));
        }
        WeatherMast m = Masts.of(0);
        m.follow(0, 1, 0);
        m.step(0, 2, 20);
        Check.is("none ahead: 0", 0, m.read(0, -4));
        Check.is("0 ahead", 7, m.read(0, 7));
        Check.is("7 ahead", 7, m.read(0, 6));
        Check.is("7 ahead", 20, m.read(0, 30));
        Check.is("20 ahead, not 30", 20, m.read(0, 1));
        WeatherMast like = Masts.of(3);
        like.follow(0, 7, 0);
        like.step(0, 2, Bits.d(-1));
        Check.is("like 0", Bits.d(-1), like.read(0, Bits.d(-6)));
        Check.is("like -1", Bits.d(-6), like.read(0, Bits.d(6)));
    }

    // STEPS

    private static void amount() {
        Check.promised("0 AMOUNT: v without its sign (of the least COUNT or TALLY itself)");
        Check.is("the least count", INT_MIN, Masts.stepped(0, 0, 0, INT_MIN));
        Check.is("the next count", INT_MAX, Masts.stepped(0, 0, 0, INT_MIN + 1));
        Check.is("the greatest count", INT_MAX, Masts.stepped(0, 0, 0, INT_MAX));
        Check.is("the least tally", Long.MIN_VALUE, Masts.stepped(1, 0, 0, Long.MIN_VALUE));
        Check.is("the next tally", Long.MAX_VALUE, Masts.stepped(1, 0, 0, Long.MIN_VALUE + 1));
        Check.is("the least count as a tally", -INT_MIN, Masts.stepped(1, 0, 0, INT_MIN));
        for (int sort = 0; sort < 4; sort++) {
            Check.is("-1", Bits.of(sort, 1), Masts.stepped(sort, 0, 0, Bits.of(sort, -1)));
            Check.is("1", Bits.of(sort, 1), Masts.stepped(sort, 0, 0, Bits.of(sort, 1)));
            Check.is("-0", 0, Masts.stepped(sort, 0, 0, Bits.of(sort, -0.0)));
        }
        for (int sort = 2; sort < 4; sort++) {
            Check.is("-infinity", GREATEST[sort], Masts.stepped(sort, 0, 0, LEAST[sort]));
            Check.is("just below 0", 1, Masts.stepped(sort, 0, 0, Bits.of(sort, -0.0) | 1));
        }
    }

    private static void atLeastAtMost() {
        Check.promised("1 AT LEAST: the GREATER of v and K. 2 AT MOST: the LESSER of v and K.");
        for (int sort = 0; sort < 4; sort++) {
            long[] rising = {LEAST[sort], Bits.of(sort, -100), Bits.of(sort, -1), 0, Bits.of(sort, 1), Bits.of(sort, 100), GREATEST[sort]};
            for (int v = 0; v < rising.length; v++) {
                for (int k = 0; k < rising.length; k++) {
                    String what = "sort " + sort + ": " + rising[v] + ", " + rising[k];
                    Check.is("AT LEAST " + what, rising[Math.max(v, k)], Masts.stepped(sort, 1, rising[k], rising[v]));
                    Check.is("AT MOST " + what, rising[Math.min(v, k)], Masts.stepped(sort, 2, rising[k], rising[v]));
                }
            }
        }
    }

    private static void furtherSteps() {
        Check.promised("These are steps of all sorts, the further ones of SINGLES and DOUBLES alone");
        for (int sort = 0; sort < 4; sort++) {
            for (int step = 0; step <= 7; step++) {
                int of = step;
                WeatherMast m = Masts.of(sort);
                if (step <= 2 || sort >= 2) {
                    Check.is("step " + step + " of sort " + sort, 1, m.step(0, step, 0));
                } else {
                    Check.refuses("step " + step + " of sort " + sort, ARGUMENT, () -> m.step(0, of, 0));
                }
            }
        }
    }

    private static void stepIs(int step, double v, double due) {
        for (int sort = 2; sort < 4; sort++) {
            String what = "step " + step + " of sort " + sort + ": " + v;
            Check.is(what, Bits.of(sort, due), Masts.stepped(sort, step, 0, Bits.of(sort, v)));
        }
    }

    private static void down() {
        Check.promised("3 DOWN: the greatest whole number that is not above v.");
        double[] from = {2.5, 2, 1.5, 1, 0.5, Float.MIN_VALUE, -0.5, -1, -1.5, -2, -2.5, -Float.MIN_VALUE, 4194303.5, -4194303.5};
        double[] due = {2, 2, 1, 1, 0, 0, -1, -1, -2, -2, -3, -1, 4194303, -4194304};
        for (int i = 0; i < from.length; i++) {
            stepIs(3, from[i], due[i]);
        }
        Check.is("just below 1", 0, Masts.stepped(2, 3, 0, Bits.f(Math.nextDown(1f))));
        Check.is("just below 2", Bits.d(1), Masts.stepped(3, 3, 0, Bits.d(Math.nextDown(2.0))));
        Check.is("just below -1", Bits.d(-2), Masts.stepped(3, 3, 0, Bits.d(Math.nextDown(-1.0))));
        Check.is("just below 0", Bits.d(-1), Masts.stepped(3, 3, 0, Bits.d(-Double.MIN_VALUE)));
    }

    private static void up() {
        Check.promised("4 UP: the least whole number that is not below v.");
        double[] from = {2.5, 2, 1.5, 1, 0.5, Float.MIN_VALUE, -1, -1.5, -2, -2.5, 4194303.5, -4194303.5, 8388607.5};
        double[] due = {3, 2, 2, 1, 1, 1, -1, -1, -2, -2, 4194304, -4194303, 8388608};
        for (int i = 0; i < from.length; i++) {
            stepIs(4, from[i], due[i]);
        }
        Check.is("just above 1", Bits.f(2), Masts.stepped(2, 4, 0, Bits.f(Math.nextUp(1f))));
        Check.is("just above 2", Bits.d(3), Masts.stepped(3, 4, 0, Bits.d(Math.nextUp(2.0))));
        Check.is("just above -2", Bits.d(-1), Masts.stepped(3, 4, 0, Bits.d(Math.nextUp(-2.0))));
        Check.is("just above 0", Bits.d(1), Masts.stepped(3, 4, 0, Bits.d(Double.MIN_VALUE)));
    }

    private static void nearest() {
        Check.promised("5 NEAREST: the whole number that is nearest to v, of two the even one.");
        double[] from = {0.5, 1.5, 2.5, 3.5, -0.5, -1.5, -2.5, -3.5, 0.25, 0.75, 1.25, 1.75, -1.25, -1.75, 4194303.5, 4194302.5,
            8388607.5, 8388606.5, -8388607.5};
        double[] due = {0, 2, 2, 4, -0.0, -2, -2, -4, 0, 1, 1, 2, -1, -2, 4194304, 4194302, 8388608, 8388606, -8388608};
        for (int i = 0; i < from.length; i++) {
            stepIs(5, from[i], due[i]);
        }
        for (double half : new double[] {0.5, 1.5, 2.5, 1023.5}) {
            double floor = Math.floor(half);
            Check.is("just below a half", Bits.f(floor), Masts.stepped(2, 5, 0, Bits.f(Math.nextDown((float) half))));
            Check.is("just above a half", Bits.f(floor + 1), Masts.stepped(2, 5, 0, Bits.f(Math.nextUp((float) half))));
            Check.is("just below a half", Bits.d(floor), Masts.stepped(3, 5, 0, Bits.d(Math.nextDown(half))));
            Check.is("just above a half", Bits.d(floor + 1), Masts.stepped(3, 5, 0, Bits.d(Math.nextUp(half))));
        }
        double wide = 1L << 52;
        Check.is("the last half of doubles", Bits.d(wide), Masts.stepped(3, 5, 0, Bits.d(wide - 0.5)));
        Check.is("the half ahead of it", Bits.d(wide - 2), Masts.stepped(3, 5, 0, Bits.d(wide - 1.5)));
    }

    private static void wholeAlready() {
        Check.promised("(3 to 5: infinities, 0 and -0 are themselves; ");
        double[] whole = {POSITIVE_INFINITY, NEGATIVE_INFINITY, 0, -0.0, 1, -1, 1 << 22, 1 << 23, (1 << 23) + 1, (1 << 24) - 1,
            1 << 24, -(1 << 24), Float.MAX_VALUE, -Float.MAX_VALUE};
        for (double v : whole) {
            for (int step = 3; step <= 5; step++) {
                stepIs(step, v, v);
            }
        }
        for (double v : new double[] {1L << 51, 1L << 52, (1L << 52) + 1, (1L << 53) - 1, 1L << 53, -(1L << 54), Double.MAX_VALUE}) {
            for (int step = 3; step <= 5; step++) {
                Check.is("step " + step, Bits.d(v), Masts.stepped(3, step, 0, Bits.d(v)));
            }
        }
    }

    private static void zeroFromBelow() {
        Check.promised("a 0 that comes of a number below 0 is -0.)");
        double[] below = {-0.5, -0.25, -0.125, -Float.MIN_NORMAL, -Float.MIN_VALUE};
        for (double v : below) {
            stepIs(4, v, -0.0);
            stepIs(5, v, -0.0);
            stepIs(3, -v, 0);
            stepIs(5, -v, 0);
        }
        stepIs(4, -0.75, -0.0);
        Check.is("UP, just above -1", Bits.d(-0.0), Masts.stepped(3, 4, 0, Bits.d(Math.nextUp(-1.0))));
        Check.is("UP, just below 0", Bits.d(-0.0), Masts.stepped(3, 4, 0, Bits.d(-Double.MIN_VALUE)));
        Check.is("NEAREST, just below 0", Bits.d(-0.0), Masts.stepped(3, 5, 0, Bits.d(-Double.MIN_VALUE)));
    }

    private static void sign() {
        Check.promised("6 SIGN: -1, 1, or, of 0 and -0, these themselves.");
        double[] above = {Float.MIN_VALUE, Float.MIN_NORMAL, 0.5, 1, 2, Float.MAX_VALUE, POSITIVE_INFINITY};
        for (double v : above) {
            stepIs(6, v, 1);
            stepIs(6, -v, -1);
        }
        stepIs(6, 0, 0);
        stepIs(6, -0.0, -0.0);
        Check.is("just above 0", Bits.d(1), Masts.stepped(3, 6, 0, 1));
        Check.is("just below 0", Bits.d(-1), Masts.stepped(3, 6, 0, Long.MIN_VALUE | 1));
    }

    private static void like() {
        Check.promised("7 LIKE: the amount of v with the sign of K (of -0 as of what is below 0)");
        double[] amounts = {0, Float.MIN_VALUE, 1.5, Float.MAX_VALUE, POSITIVE_INFINITY};
        for (int sort = 2; sort < 4; sort++) {
            for (double v : amounts) {
                for (double k : amounts) {
                    String what = "sort " + sort + ": " + v + ", " + k;
                    long due = Bits.of(sort, v);
                    long minus = Bits.of(sort, -v);
                    long below = Bits.of(sort, -k);
                    Check.is("both above: " + what, due, Masts.stepped(sort, 7, Bits.of(sort, k), due));
                    Check.is("v below: " + what, due, Masts.stepped(sort, 7, Bits.of(sort, k), minus));
                    Check.is("K below: " + what, minus, Masts.stepped(sort, 7, below, due));
                    Check.is("both below: " + what, minus, Masts.stepped(sort, 7, below, minus));
                }
            }
        }
    }

    // READINGS

    private static void firstStepFirst() {
        Check.promised("the number that is told goes through the chain, the first step first");
        WeatherMast m = Masts.of(3, 3);
        m.step(0, 0, 0);
        m.step(0, 2, Bits.d(-1));
        m.step(1, 2, Bits.d(-1));
        m.step(1, 0, 0);
        Check.is("AMOUNT, AT MOST", Bits.d(-1), m.read(0, Bits.d(-5)));
        Check.is("AT MOST, AMOUNT", Bits.d(5), m.read(1, Bits.d(-5)));
        WeatherMast empty = Masts.of(3);
        Check.is("an empty chain", Bits.d(-5.5), empty.read(0, Bits.d(-5.5)));
        WeatherMast full = Masts.of(0);
        for (int n = 1; n <= 6; n++) {
            full.step(0, 1 + n % 2, n * 10);
        }
        Check.is("a full chain", 60, full.read(0, 0));
        Check.is("all six were done", 6, full.count(3));
        WeatherMast last = Masts.of(0);
        for (int n = 0; n < 5; n++) {
            last.step(0, 0, 0);
        }
        last.step(0, 2, -3);
        Check.is("the sixth is done", -3, last.read(0, 4));
    }

    private static void whatComesOutIsRead() {
        Check.promised("what comes out is read.");
        WeatherMast m = Masts.of(0);
        m.step(0, 2, 10);
        m.limits(0, 0, 10);
        Masts.reads(m, 0, 100, 4, 50);
        Masts.tells("at most 10", m, 4, 10, 6, 24);
        Check.is("reading", 10, m.reading(0, 0));
        Check.is("whole", 10, m.whole(0));
        Check.is("widest", 6, m.widest(0));
        Check.is("alarms", 0, m.alarms(0));
    }

    private static void sixteenAreKept() {
        Check.promised("The latest sixteen readings of an instrument are kept.");
        for (int n : new int[] {1, 15, 16, 17, 31, 32, 33, 100}) {
            WeatherMast m = Masts.of(1, 1);
            for (int i = 1; i <= n; i++) {
                m.read(0, i);
                m.read(1, -i);
            }
            for (int i = 0; i < 18; i++) {
                int back = i;
                if (i < Math.min(16, n)) {
                    Check.is(n + " readings, " + i, n - i, m.reading(0, i));
                    Check.is(n + " readings, " + i, i - n, m.reading(1, i));
                } else {
                    Check.refuses(n + " readings, " + i, java.util.NoSuchElementException.class, () -> m.reading(0, back));
                }
            }
        }
    }

    private static void leastAndGreatestOfAll() {
        Check.promised("LEAST is the LESSER of all its readings, GREATEST the GREATER.");
        for (int sort = 0; sort < 4; sort++) {
            long five = Bits.of(sort, 5);
            WeatherMast one = Masts.that(sort, five);
            Check.is("the first one, above 0", five, one.tell(0, 0));
            WeatherMast below = Masts.that(sort, Bits.of(sort, -5));
            Check.is("the first one, below 0", Bits.of(sort, -5), below.tell(0, 1));
            WeatherMast m = Masts.that(sort, LEAST[sort], GREATEST[sort]);
            for (int n = 0; n < 40; n++) {
                m.read(0, five);
            }
            Check.is("kept no more", LEAST[sort], m.tell(0, 0));
            Check.is("kept no more", GREATEST[sort], m.tell(0, 1));
            m.forget(0);
            m.read(0, five);
            Check.is("gone", five, m.tell(0, 0));
            Check.is("gone", five, m.tell(0, 1));
        }
    }

    private static void swingOfFirst() {
        Check.promised("SWING is the amount of the reading less the one ahead of it (0 for the first one");
        for (int sort = 0; sort < 4; sort++) {
            for (long v : new long[] {LEAST[sort], GREATEST[sort], Bits.of(sort, -7), Bits.of(sort, 7)}) {
                WeatherMast m = Masts.that(sort, v);
                Check.is("first", 0, m.tell(0, 2));
                m.read(0, 0);
                m.forget(0);
                m.read(0, v);
                Check.is("first after forget", 0, m.tell(0, 2));
            }
            long[] falls = {Bits.of(sort, 9), Bits.of(sort, 2), Bits.of(sort, -3)};
            long[] rises = {falls[2], falls[1], falls[0]};
            Check.is("it falls", Bits.of(sort, 5), Masts.that(sort, falls).tell(0, 2));
            Check.is("it rises", Bits.of(sort, 7), Masts.that(sort, rises).tell(0, 2));
        }
    }

    private static void swingOfAlike() {
        Check.promised("and of two that are alike");
        for (int sort = 0; sort < 4; sort++) {
            for (long v : new long[] {LEAST[sort], GREATEST[sort], Bits.of(sort, -7), 0, 1, Bits.of(sort, -0.0)}) {
                Check.is("sort " + sort + ": " + v, 0, Masts.that(sort, 1, v, v).tell(0, 2));
            }
            long minus = Bits.of(sort, -0.0);
            Check.is("0, -0", 0, Masts.that(sort, 0, minus).tell(0, 2));
            Check.is("-0, 0", 0, Masts.that(sort, minus, 0).tell(0, 2));
        }
        for (int sort = 2; sort < 4; sort++) {
            long inf = GREATEST[sort];
            Check.is("infinities that are not alike", inf, Masts.that(sort, inf, LEAST[sort]).tell(0, 2));
            Check.is("infinities that are not alike", inf, Masts.that(sort, LEAST[sort], inf).tell(0, 2));
            Check.is("from infinity", inf, Masts.that(sort, inf, inf - 1).tell(0, 2));
            Check.is("to -infinity", inf, Masts.that(sort, 0, LEAST[sort]).tell(0, 2));
        }
    }

    private static void swingWraps() {
        Check.promised("of COUNTS and TALLIES it wraps");
        Check.is("counts", INT_MIN, Masts.that(0, INT_MIN, 0).tell(0, 2));
        Check.is("counts", INT_MIN, Masts.that(0, 0, INT_MIN).tell(0, 2));
        Check.is("counts", INT_MAX, Masts.that(0, 1, INT_MIN).tell(0, 2));
        Check.is("counts", INT_MAX, Masts.that(0, INT_MIN, -1).tell(0, 2));
        Check.is("counts", INT_MIN, Masts.that(0, -1, INT_MAX).tell(0, 2));
        Check.is("counts", 2, Masts.that(0, INT_MAX, INT_MIN + 1).tell(0, 2));
        Check.is("tallies", Long.MIN_VALUE, Masts.that(1, Long.MIN_VALUE, 0).tell(0, 2));
        Check.is("tallies", Long.MIN_VALUE, Masts.that(1, 0, Long.MIN_VALUE).tell(0, 2));
        Check.is("tallies", Long.MAX_VALUE, Masts.that(1, 1, Long.MIN_VALUE).tell(0, 2));
        Check.is("tallies", Long.MIN_VALUE, Masts.that(1, -1, Long.MAX_VALUE).tell(0, 2));
        Check.is("tallies", 2, Masts.that(1, Long.MAX_VALUE, Long.MIN_VALUE + 1).tell(0, 2));
    }

    private static void sumBeginsWithZero() {
        Check.promised("SUM is, beginning with 0, the amounts of the readings one by one, added.");
        for (int sort = 0; sort < 4; sort++) {
            Check.is("-0 alone", 0, Masts.that(sort, Bits.of(sort, -0.0)).tell(0, 3));
            Check.is("one below 0", Bits.of(sort, 6), Masts.that(sort, Bits.of(sort, -6)).tell(0, 3));
            WeatherMast m = Masts.that(sort, Bits.of(sort, -6), Bits.of(sort, 2));
            Check.is("amounts", Bits.of(sort, 8), m.tell(0, 3));
            m.forget(0);
            m.read(0, Bits.of(sort, -3));
            Check.is("begun anew", Bits.of(sort, 3), m.tell(0, 3));
            for (int n = 0; n < 20; n++) {
                m.read(0, Bits.of(sort, -1));
            }
            Check.is("of those kept no more, too", Bits.of(sort, 23), m.tell(0, 3));
        }
        Check.is("the least count", INT_MIN, Masts.that(0, INT_MIN).tell(0, 3));
        Check.is("the least tally", Long.MIN_VALUE, Masts.that(1, Long.MIN_VALUE).tell(0, 3));
        Check.is("infinities", INF_F, Masts.that(2, INF_F, LEAST[2], Bits.f(1)).tell(0, 3));
        Check.is("infinities", INF_D, Masts.that(3, LEAST[3], INF_D, Bits.d(-1)).tell(0, 3));
        Check.is("one by one", Bits.d(1e16), Masts.that(3, Bits.d(1e16), Bits.d(1), Bits.d(1)).tell(0, 3));
        Check.is("one by one", Bits.d(1e16 + 2), Masts.that(3, Bits.d(1), Bits.d(1), Bits.d(1e16)).tell(0, 3));
    }

    private static void alarmAtTheLimits() {
        Check.promised("It is an ALARM when it is BELOW LOW or ABOVE HIGH.");
        for (int sort = 0; sort < 4; sort++) {
            long low = Bits.of(sort, 10);
            long high = Bits.of(sort, 20);
            WeatherMast m = Masts.of(sort);
            m.limits(0, low, high);
            long[] numbers = {low, low - 1, low + 1, high, high + 1, high - 1, LEAST[sort], GREATEST[sort], 0};
            int[] alarms = {0, 1, 1, 1, 2, 2, 3, 4, 5};
            for (int i = 0; i < numbers.length; i++) {
                m.read(0, numbers[i]);
                Check.is("sort " + sort + ": " + numbers[i], alarms[i], m.alarms(0));
            }
            m.limits(0, high, low);
            m.read(0, Bits.of(sort, 15));
            Check.is("below LOW and above HIGH: an alarm", 6, m.alarms(0));
        }
    }
}
