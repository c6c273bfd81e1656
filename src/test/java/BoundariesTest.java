import static java.lang.Double.NEGATIVE_INFINITY;
import static java.lang.Double.POSITIVE_INFINITY;

import java.util.NoSuchElementException;

/** The boundary cases that the thirteen promises name: each sentence has a method of its own. */
public final class BoundariesTest {
    private static final Class<IndexOutOfBoundsException> INDEX = IndexOutOfBoundsException.class;
    private static final Class<IllegalArgumentException> ARGUMENT = IllegalArgumentException.class;
    private static final Class<IllegalStateException> STATE = IllegalStateException.class;
    private static final Class<NoSuchElementException> NONE = NoSuchElementException.class;
    private static final Class<UnsupportedOperationException> UNSUPPORTED = UnsupportedOperationException.class;

    private static final int MIN = Integer.MIN_VALUE;
    private static final int MAX = Integer.MAX_VALUE;
    private static final long INF_D = Bits.d(POSITIVE_INFINITY);
    private static final long NO_NUMBER = -1;
    private static final int[] NO_SORTS = {-1, 4, 5, MIN, MAX};

    public static void main(String[] args) {
        newObject();
        mountNumbers();
        mountNoSort();
        mountNinth();
        stepNoInstrument();
        stepNoStep();
        stepNoNumber();
        stepWithoutK();
        stepSeventh();
        stepOrder();
        stepCounts();
        followCounts();
        followNoInstrument();
        followNoStep();
        followWithoutK();
        followOtherSort();
        followSeventh();
        followOrder();
        readNoInstrument();
        readNoNumber();
        readingNoInstrument();
        readingNone();
        readingKeptNoMore();
        readingLatest();
        tellNoInstrument();
        tellOther();
        tellNothing();
        tellSwingOfLatest();
        wholeNoInstrument();
        wholeNothing();
        wholeCut();
        wholeBeyond();
        limitsNoInstrument();
        limitsNoNumber();
        limitsNotAbove();
        limitsFromNowOn();
        widestNoSort();
        widestNothing();
        widestOfLatest();
        widestOfSort();
        widestBySign();
        forgetNoInstrument();
        forgetHowMany();
        forgetGone();
        forgetStays();
        alarmsNoInstrument();
        alarmsOfOne();
        countAnother();
        countInstruments();
        countReadings();
        countAlarms();
        countSteps();
        Check.end();
    }

    private interface OnInstrument {
        Object call(WeatherMast m, int instrument);
    }

    /** A mast of counts that have read. */
    private static WeatherMast used(int mounted) {
        WeatherMast m = Masts.of(new int[mounted]);
        for (int i = 0; i < mounted; i++) {
            m.read(i, 5);
        }
        return m;
    }

    /** On masts that are empty, begun, all but full, and full; what is asked is wrong in no other way. */
    private static void noInstrument(OnInstrument asks) {
        for (int mounted : new int[] {0, 1, 7, 8}) {
            WeatherMast m = used(mounted);
            for (int wrong : new int[] {-1, mounted, 8, 9, MIN, MAX}) {
                Check.refuses("instrument " + wrong + " of " + mounted, INDEX, () -> asks.call(m, wrong));
            }
            for (int i = 0; i < mounted; i++) {
                int right = i;
                Object answer = Check.outcome(() -> asks.call(used(mounted), right));
                Check.yes("instrument " + right + " of " + mounted, !answer.toString().startsWith("throws"));
            }
        }
    }

    // Promise 1

    private static void newObject() {
        Check.promised("`WeatherMast()`: A mast without instruments.");
        WeatherMast m = new WeatherMast();
        for (int what = 0; what < 4; what++) {
            Check.is("count " + what, 0, m.count(what));
        }
        Check.refuses("alarms", INDEX, () -> m.alarms(0));
        Check.refuses("forget", INDEX, () -> m.forget(0));
        for (int sort = 0; sort < 4; sort++) {
            int s = sort;
            Check.refuses("widest", NONE, () -> m.widest(s));
        }
        WeatherMast full = Masts.of(0, 1, 2, 3, 3, 2, 1, 0);
        full.read(0, 1);
        Check.is("beside a full one", 0, new WeatherMast().count(0));
        Check.is("beside a full one", 0, new WeatherMast().mount(3));
        WeatherMast a = Masts.of(0);
        WeatherMast b = Masts.of(0);
        a.step(0, 0, 0);
        a.limits(0, 0, 3);
        a.read(0, -4);
        b.read(0, -6);
        Check.is("side by side", 4, a.reading(0, 0));
        Check.is("side by side", -6, b.reading(0, 0));
        Check.is("side by side", 1, a.count(2));
        Check.is("side by side", 0, b.count(2));
        Check.is("side by side", 1, b.count(1));
        Check.is("side by side", 0, b.count(3));
    }

    // Promise 2

    private static void mountNumbers() {
        Check.promised("A new instrument of a sort: its number.");
        for (int sort = 0; sort < 4; sort++) {
            WeatherMast m = new WeatherMast();
            for (int n = 0; n < 8; n++) {
                Check.is("mount", n, m.mount((sort + n) % 4));
                Check.is("instruments", n + 1, m.count(0));
            }
            for (int n = 0; n < 8; n++) {
                int of = (sort + n) % 4;
                Check.is("its sort", of % 2 == 0 ? 1 : (1L << 32) + 1, m.read(n, (1L << 32) + 1));
                int it = n;
                Object steps = Check.outcome(() -> m.step(it, 7, 0));
                Check.yes("its sort", steps.equals(1) == (of >= 2));
            }
        }
    }

    private static void mountNoSort() {
        Check.promised("IllegalArgumentException when there is no such sort; UnsupportedOperationException when there are eight.");
        for (int mounted = 0; mounted <= 8; mounted++) {
            WeatherMast m = Masts.of(new int[mounted]);
            for (int sort : NO_SORTS) {
                Check.refuses("sort " + sort + " with " + mounted, ARGUMENT, () -> m.mount(sort));
            }
        }
    }

    private static void mountNinth() {
        Check.promised("UnsupportedOperationException when there are eight.");
        for (int first = 0; first < 4; first++) {
            WeatherMast m = Masts.of(first, first, first, first, first, first, first);
            Check.is("the eighth", 7, m.mount(first));
            for (int sort = 0; sort < 4; sort++) {
                int s = sort;
                Check.refuses("the ninth", UNSUPPORTED, () -> m.mount(s));
            }
            m.forget(7);
            Check.refuses("forget makes no room", UNSUPPORTED, () -> m.mount(0));
            Check.is("instruments", 8, m.count(0));
        }
    }

    // Promise 3

    private static void stepNoInstrument() {
        Check.promised("IndexOutOfBoundsException when there is no such instrument; then IllegalArgumentException when there is no such step of its sort");
        noInstrument((m, i) -> m.step(i, 0, 0));
        WeatherMast m = Masts.of(3);
        Check.refuses("no such step, either", INDEX, () -> m.step(1, 8, 0));
        Check.refuses("K is no number, either", INDEX, () -> m.step(1, 1, NO_NUMBER));
        Check.refuses("no such step, either", INDEX, () -> m.step(-1, -1, NO_NUMBER));
    }

    private static void stepNoStep() {
        Check.promised("IllegalArgumentException when there is no such step of its sort, or it takes K and K is no number");
        for (int sort = 0; sort < 4; sort++) {
            WeatherMast m = Masts.of(sort);
            int most = sort < 2 ? 2 : 7;
            for (int step : new int[] {-1, most + 1, 8, 9, MIN, MAX}) {
                Check.refuses("step " + step + " of sort " + sort, ARGUMENT, () -> m.step(0, step, 0));
            }
            Check.is("the first step", 1, m.step(0, 0, 0));
            Check.is("the last step", 2, m.step(0, most, 0));
        }
        WeatherMast m = Masts.of(0, 1);
        for (int step = 3; step <= 7; step++) {
            int s = step;
            Check.refuses("of counts", ARGUMENT, () -> m.step(0, s, 0));
            Check.refuses("of tallies", ARGUMENT, () -> m.step(1, s, 0));
        }
    }

    private static void stepNoNumber() {
        Check.promised("or it takes K and K is no number");
        WeatherMast m = Masts.of(0, 1, 2, 3);
        long first = 0x7f800001L;
        for (int step : new int[] {1, 2, 7}) {
            Check.refuses("single", ARGUMENT, () -> m.step(2, step, first));
            Check.refuses("double", ARGUMENT, () -> m.step(3, step, INF_D + 1));
        }
        Check.is("infinity", 1, m.step(2, 7, first - 1));
        Check.is("infinity", 1, m.step(3, 7, INF_D));
        Check.is("all bits are counts", 1, m.step(0, 1, first));
        Check.is("all bits are counts", 2, m.step(0, 2, NO_NUMBER));
        Check.is("all bits are tallies", 1, m.step(1, 1, INF_D + 1));
        Check.is("all bits are tallies", 2, m.step(1, 2, NO_NUMBER));
    }

    private static void stepWithoutK() {
        Check.promised("with K (which does not matter for steps without)");
        for (int sort = 2; sort < 4; sort++) {
            for (int step : new int[] {0, 3, 4, 5, 6}) {
                WeatherMast m = Masts.of(sort, sort);
                Check.is("step " + step, 1, m.step(0, step, NO_NUMBER));
                m.step(1, step, Bits.of(sort, 77));
                for (double v : new double[] {-2.25, -0.0, 2.75, NEGATIVE_INFINITY}) {
                    Check.is("step " + step, m.read(1, Bits.of(sort, v)), m.read(0, Bits.of(sort, v)));
                }
            }
        }
    }

    /** Instrument 0 has six steps. */
    private static WeatherMast full(int... sorts) {
        WeatherMast m = Masts.of(sorts);
        for (int n = 1; n <= 6; n++) {
            Check.is("how many steps", n, n % 2 == 0 ? m.step(0, 1, 0) : m.follow(0, 2, 0));
        }
        return m;
    }

    private static void stepSeventh() {
        Check.promised("then IllegalStateException when it has six.");
        for (int sort = 0; sort < 4; sort++) {
            WeatherMast m = full(sort, sort);
            for (int step = 0; step <= (sort < 2 ? 2 : 7); step++) {
                int s = step;
                Check.refuses("the seventh", STATE, () -> m.step(0, s, 0));
            }
            Check.is("another's chain", 1, m.step(1, 0, 0));
            m.read(0, 1);
            m.forget(0);
            Check.refuses("forget makes no room", STATE, () -> m.step(0, 0, 0));
        }
    }

    private static void stepOrder() {
        Check.promised("or it takes K and K is no number; then IllegalStateException when it has six.");
        WeatherMast c = full(0);
        Check.refuses("no such step, and six", ARGUMENT, () -> c.step(0, 3, 0));
        Check.refuses("no such step, and six", ARGUMENT, () -> c.step(0, -1, 0));
        WeatherMast d = full(3);
        Check.refuses("no such step, and six", ARGUMENT, () -> d.step(0, 8, 0));
        Check.refuses("no number, and six", ARGUMENT, () -> d.step(0, 1, NO_NUMBER));
        Check.refuses("K does not matter, and six", STATE, () -> d.step(0, 3, NO_NUMBER));
        Check.refuses("no instrument, and six", INDEX, () -> d.step(1, 3, 0));
    }

    private static void stepCounts() {
        Check.promised("One more step behind an instrument's chain, with K (which does not matter for steps without): how many steps it has.");
        WeatherMast m = Masts.of(0, 0);
        for (int n = 1; n <= 6; n++) {
            Check.is("how many", n, m.step(0, 1, n));
            Check.is("what is read from now on", n, m.read(0, 0));
        }
        Check.is("another's chain", 0, m.read(1, 0));
    }

    // Promise 4

    private static void followCounts() {
        Check.promised("One more step whose K is the latest reading of an instrument other: how many steps it has.");
        for (int sort = 0; sort < 4; sort++) {
            WeatherMast m = Masts.of(sort, sort, sort);
            for (int n = 1; n <= 6; n++) {
                boolean follows = n % 2 == 1;
                Check.is("how many, some of step's", n, follows ? m.follow(0, 1, 1) : m.step(0, 1, 0));
                Check.is("the other's chain grows by its own", n, m.follow(1, 1, 2));
            }
            m.read(2, Bits.of(sort, 7));
            Check.is("the other reads", Bits.of(sort, 7), m.read(1, Bits.of(sort, 3)));
            Check.is("its latest reading is K", Bits.of(sort, 7), m.read(0, Bits.of(sort, 5)));
            Check.is("steps of both, not of the third", 12, m.count(3));
        }
    }

    private static void followNoInstrument() {
        Check.promised("IndexOutOfBoundsException when there is no such instrument, or no such other");
        noInstrument((m, i) -> m.follow(i, 1, 0));
        noInstrument((m, i) -> m.follow(0, 1, i));
        WeatherMast m = Masts.of(3, 2);
        Check.refuses("neither", INDEX, () -> m.follow(2, 1, 2));
        Check.refuses("no such step, either", INDEX, () -> m.follow(2, 8, 0));
        Check.refuses("no such step, either", INDEX, () -> m.follow(0, 8, 2));
        Check.refuses("without K, too", INDEX, () -> m.follow(0, 0, 2));
        Check.refuses("without K, too", INDEX, () -> m.follow(-1, 0, 1));
    }

    private static void followNoStep() {
        Check.promised("then IllegalArgumentException when there is no such step of its sort, it takes no K");
        for (int sort = 0; sort < 4; sort++) {
            WeatherMast m = Masts.of(sort, sort);
            for (int step : new int[] {-1, sort < 2 ? 3 : 8, sort < 2 ? 7 : 9, MIN, MAX}) {
                Check.refuses("step " + step + " of sort " + sort, ARGUMENT, () -> m.follow(0, step, 1));
                Check.refuses("step " + step + " of sort " + sort, ARGUMENT, () -> m.follow(0, step, 0));
            }
        }
    }

    private static void followWithoutK() {
        Check.promised("it takes no K, or the other one is of another sort");
        for (int sort = 0; sort < 4; sort++) {
            WeatherMast m = Masts.of(sort, sort);
            for (int step : new int[] {0, 3, 4, 5, 6}) {
                Check.refuses("step " + step + " of sort " + sort, ARGUMENT, () -> m.follow(0, step, 1));
            }
            Check.is("AT LEAST", 1, m.follow(0, 1, 1));
            Check.is("AT MOST", 2, m.follow(0, 2, 1));
            if (sort >= 2) {
                Check.is("LIKE", 3, m.follow(0, 7, 1));
            }
        }
    }

    private static void followOtherSort() {
        Check.promised("or the other one is of another sort");
        for (int sort = 0; sort < 4; sort++) {
            for (int other = 0; other < 4; other++) {
                WeatherMast m = Masts.of(sort, other);
                if (sort == other) {
                    Check.is("the same sort", 1, m.follow(0, 1, 1));
                } else {
                    Check.refuses(sort + " follows " + other, ARGUMENT, () -> m.follow(0, 1, 1));
                }
            }
        }
    }

    private static void followSeventh() {
        Check.promised("then IllegalStateException when it has six.");
        for (int sort = 0; sort < 4; sort++) {
            WeatherMast m = full(sort, sort);
            Check.refuses("the seventh", STATE, () -> m.follow(0, 1, 1));
            Check.refuses("the seventh", STATE, () -> m.follow(0, 2, 0));
            Check.is("the other's chain", 1, m.follow(1, 2, 0));
        }
    }

    private static void followOrder() {
        Check.promised("or the other one is of another sort; then IllegalStateException when it has six.");
        WeatherMast m = full(3, 3, 2);
        Check.refuses("another sort, and six", ARGUMENT, () -> m.follow(0, 1, 2));
        Check.refuses("without K, and six", ARGUMENT, () -> m.follow(0, 0, 1));
        Check.refuses("no such step, and six", ARGUMENT, () -> m.follow(0, 8, 1));
        Check.refuses("no other, and six", INDEX, () -> m.follow(0, 1, 3));
    }

    // Promise 5

    private static void readNoInstrument() {
        Check.promised("An instrument reads: what comes out of the chain. IndexOutOfBoundsException when there is no such instrument; then");
        noInstrument((m, i) -> m.read(i, 0));
        WeatherMast m = Masts.of(3);
        Check.refuses("no number, either", INDEX, () -> m.read(1, NO_NUMBER));
        Check.refuses("no number, either", INDEX, () -> m.read(-1, INF_D + 1));
    }

    private static void readNoNumber() {
        Check.promised("then IllegalArgumentException when the bits are no number.");
        WeatherMast m = Masts.of(0, 1, 2, 3);
        m.step(2, 1, 0);
        m.step(3, 1, 0);
        for (long sign : new long[] {0, Long.MIN_VALUE, 0x80000000L}) {
            Check.refuses("single", ARGUMENT, () -> m.read(2, sign | 0x7f800001L));
            Check.refuses("single", ARGUMENT, () -> m.read(2, sign | 0x7fffffffL));
        }
        for (long sign : new long[] {0, Long.MIN_VALUE}) {
            Check.refuses("double", ARGUMENT, () -> m.read(3, sign | (INF_D + 1)));
            Check.refuses("double", ARGUMENT, () -> m.read(3, sign | Long.MAX_VALUE));
        }
        Check.is("count", -1, m.read(0, NO_NUMBER));
        Check.is("tally", -1, m.read(1, NO_NUMBER));
        Check.is("readings ever", 2, m.count(1));
    }

    // Promise 6

    private static void readingNoInstrument() {
        Check.promised("The i-th latest reading of an instrument (0: the latest). IndexOutOfBoundsException when there is no such instrument");
        noInstrument((m, i) -> m.reading(i, 0));
        WeatherMast m = Masts.of(0);
        Check.refuses("no reading, either", INDEX, () -> m.reading(1, 0));
        Check.refuses("no reading, either", INDEX, () -> m.reading(-1, -1));
    }

    private static void readingNone() {
        Check.promised("then NoSuchElementException when there is none such");
        for (int n = 0; n <= 17; n++) {
            WeatherMast m = Masts.that(0, new long[n]);
            int kept = Math.min(n, 16);
            for (int i : new int[] {-1, MIN, kept, kept + 1, n + 16, MAX, -16, -n - 1}) {
                Check.refuses("reading " + i + " of " + n, NONE, () -> m.reading(0, i));
            }
        }
        WeatherMast two = Masts.of(0, 0);
        two.read(0, 1);
        Check.refuses("another's reading", NONE, () -> two.reading(1, 0));
        two.forget(0);
        Check.refuses("a forgotten reading", NONE, () -> two.reading(0, 0));
    }

    private static void readingKeptNoMore() {
        Check.promised("or it is kept no more.");
        WeatherMast m = Masts.of(0);
        for (int n = 1; n <= 16; n++) {
            m.read(0, n);
        }
        Check.is("the sixteenth", 1, m.reading(0, 15));
        m.read(0, 17);
        Check.is("the sixteenth", 2, m.reading(0, 15));
        Check.refuses("the seventeenth", NONE, () -> m.reading(0, 16));
        m.forget(0);
        m.read(0, 18);
        for (int i = 1; i <= 16; i++) {
            int back = i;
            Check.refuses("ahead of forget", NONE, () -> m.reading(0, back));
        }
        Check.is("since then", 18, m.reading(0, 0));
    }

    private static void readingLatest() {
        Check.promised("(0: the latest)");
        for (int sort = 0; sort < 4; sort++) {
            WeatherMast m = Masts.of(sort);
            for (int n = -20; n <= 20; n++) {
                m.read(0, Bits.of(sort, n));
                Check.is("the latest", Bits.of(sort, n), m.reading(0, 0));
                if (n > -20) {
                    Check.is("the one ahead", Bits.of(sort, n - 1), m.reading(0, 1));
                }
            }
        }
    }

    // Promise 7

    private static void tellNoInstrument() {
        Check.promised("0 LEAST, 1 GREATEST, 2 SWING of the latest reading, 3 SUM. IndexOutOfBoundsException when there is no such instrument");
        noInstrument((m, i) -> m.tell(i, 0));
        WeatherMast m = Masts.of(0);
        Check.refuses("another what, too", INDEX, () -> m.tell(1, 4));
        Check.refuses("another what, too", INDEX, () -> m.tell(-1, -1));
    }

    private static void tellOther() {
        Check.promised("then IllegalArgumentException for another what");
        WeatherMast m = Masts.of(0, 0);
        m.read(1, 3);
        for (int what : new int[] {-1, 4, 5, MIN, MAX}) {
            Check.refuses("nothing read: " + what, ARGUMENT, () -> m.tell(0, what));
            Check.refuses("something read: " + what, ARGUMENT, () -> m.tell(1, what));
        }
    }

    private static void tellNothing() {
        Check.promised("then NoSuchElementException when it has read nothing.");
        for (int sort = 0; sort < 4; sort++) {
            WeatherMast m = Masts.of(sort, sort);
            m.read(1, 3);
            for (int w = 0; w < 4; w++) {
                int what = w;
                Check.refuses("never", NONE, () -> m.tell(0, what));
            }
            m.forget(1);
            for (int w = 0; w < 4; w++) {
                int what = w;
                Check.refuses("since it forgot", NONE, () -> m.tell(1, what));
            }
        }
    }

    private static void tellSwingOfLatest() {
        Check.promised("2 SWING of the latest reading");
        for (int sort = 0; sort < 4; sort++) {
            WeatherMast m = Masts.of(sort);
            double[] numbers = {3, 10, 8, 8, -8, -9};
            double[] swings = {0, 7, 2, 0, 16, 1};
            for (int i = 0; i < numbers.length; i++) {
                m.read(0, Bits.of(sort, numbers[i]));
                Check.is("reading " + i, Bits.of(sort, swings[i]), m.tell(0, 2));
            }
            Masts.tells("each what", m, Bits.of(sort, -9), Bits.of(sort, 10), Bits.of(sort, 1), Bits.of(sort, 46));
        }
    }

    // Promise 8

    private static void wholeNoInstrument() {
        Check.promised("The latest reading of an instrument as an int: cut towards 0, what is beyond is the nearest int. IndexOutOfBoundsException");
        noInstrument((m, i) -> m.whole(i));
    }

    private static void wholeNothing() {
        Check.promised("then NoSuchElementException when it has read nothing.");
        for (int sort = 0; sort < 4; sort++) {
            WeatherMast m = Masts.of(sort, sort);
            m.read(1, 0);
            Check.refuses("never", NONE, () -> m.whole(0));
            m.forget(1);
            Check.refuses("since it forgot", NONE, () -> m.whole(1));
        }
    }

    private static void wholeIs(int sort, long due, double v) {
        Check.is("sort " + sort + ": " + v, due, Masts.that(sort, Bits.of(sort, 9), Bits.of(sort, v)).whole(0));
    }

    private static void wholeCut() {
        Check.promised("cut towards 0");
        for (int sort = 2; sort < 4; sort++) {
            double[] from = {0, -0.0, 0.5, -0.5, 0.9375, -0.9375, 1, -1, 1.9375, -1.9375, 2, -2, 2.5, -2.5, 3.5, -3.5, 8388607.5, -8388607.5,
                16777215, -16777215, Float.MIN_VALUE, -Float.MIN_VALUE};
            int[] due = {0, 0, 0, 0, 0, 0, 1, -1, 1, -1, 2, -2, 2, -2, 3, -3, 8388607, -8388607, 16777215, -16777215, 0, 0};
            for (int i = 0; i < from.length; i++) {
                wholeIs(sort, due[i], from[i]);
            }
        }
        for (int power = 1; power <= 1074; power++) {
            wholeIs(2, 0, Math.scalb(1.5, -power));
            wholeIs(3, 0, Math.scalb(-1.5, -power));
        }
        for (int power = 0; power < 31; power++) {
            wholeIs(2, 1 << power, Math.scalb(1.0, power));
            wholeIs(3, (1 << power) - 1, Math.scalb(1.0, power) - 0.25);
            wholeIs(3, -(1 << power), -Math.scalb(1.0, power) - 0.25);
        }
        wholeIs(3, 0, Math.nextDown(1.0));
        wholeIs(3, 0, Math.nextUp(-1.0));
        wholeIs(3, 0, Double.MIN_VALUE);
        wholeIs(2, 0, Math.nextDown(1f));
        wholeIs(3, MAX - 1, MAX - 0.5);
        wholeIs(3, MIN + 1, MIN + 0.5);
        wholeIs(0, MIN, MIN);
        wholeIs(0, MAX, MAX);
        wholeIs(1, MIN, MIN);
        wholeIs(1, MAX, MAX);
    }

    private static void wholeBeyond() {
        Check.promised("what is beyond is the nearest int");
        wholeIs(1, MAX, 0x80000000L);
        wholeIs(1, MIN, -0x80000001L);
        wholeIs(1, MAX, 1L << 32);
        wholeIs(1, MIN, -(1L << 32));
        Check.is("the greatest tally", MAX, Masts.that(1, Long.MAX_VALUE).whole(0));
        Check.is("the least tally", MIN, Masts.that(1, Long.MIN_VALUE).whole(0));
        for (int sort = 2; sort < 4; sort++) {
            for (double v : new double[] {2147483648.0, 4294967296.0, 1e20, Float.MAX_VALUE, POSITIVE_INFINITY}) {
                wholeIs(sort, MAX, v);
                wholeIs(sort, MIN, -v);
            }
            wholeIs(sort, 2147483520, 2147483520.0);
            wholeIs(sort, -2147483520, -2147483520.0);
        }
        wholeIs(3, MAX, 2147483647.0);
        wholeIs(3, MAX, 2147483647.5);
        wholeIs(3, MIN, -2147483648.5);
        wholeIs(3, MIN, -2147483649.0);
        wholeIs(3, MAX, Double.MAX_VALUE);
    }

    // Promise 9

    private static void limitsNoInstrument() {
        Check.promised("An instrument's limits from now on: whether LOW is not ABOVE HIGH. IndexOutOfBoundsException when there is no such instrument");
        noInstrument((m, i) -> m.limits(i, 0, 0));
        WeatherMast m = Masts.of(3);
        Check.refuses("no numbers, either", INDEX, () -> m.limits(1, NO_NUMBER, NO_NUMBER));
        Check.refuses("no numbers, either", INDEX, () -> m.limits(-1, NO_NUMBER, 0));
    }

    private static void limitsNoNumber() {
        Check.promised("then IllegalArgumentException when one of both is no number.");
        for (int sort = 2; sort < 4; sort++) {
            WeatherMast m = Masts.of(sort);
            Check.refuses("LOW", ARGUMENT, () -> m.limits(0, NO_NUMBER, 0));
            Check.refuses("HIGH", ARGUMENT, () -> m.limits(0, 0, NO_NUMBER));
            Check.refuses("both", ARGUMENT, () -> m.limits(0, NO_NUMBER, NO_NUMBER));
        }
        WeatherMast m = Masts.of(0, 1);
        Check.yes("all bits are counts", m.limits(0, NO_NUMBER, 0x7f800001L));
        Check.yes("all bits are tallies", m.limits(1, NO_NUMBER, INF_D + 1));
    }

    private static void limitsNotAbove() {
        Check.promised("whether LOW is not ABOVE HIGH");
        for (int sort = 0; sort < 4; sort++) {
            WeatherMast m = Masts.of(sort);
            double[] rising = {-100, -2, -1, 0, 1, 2, 100};
            for (int low = 0; low < rising.length; low++) {
                for (int high = 0; high < rising.length; high++) {
                    String what = "sort " + sort + ": " + rising[low] + ", " + rising[high];
                    Check.same(what, low <= high, m.limits(0, Bits.of(sort, rising[low]), Bits.of(sort, rising[high])));
                }
            }
        }
        WeatherMast m = Masts.of(0, 1, 2, 3);
        Check.yes("counts", m.limits(0, MIN, MAX));
        Check.yes("counts", !m.limits(0, MAX, MIN));
        Check.yes("tallies", m.limits(1, Long.MIN_VALUE, Long.MAX_VALUE));
        Check.yes("tallies", !m.limits(1, Long.MAX_VALUE, Long.MIN_VALUE));
        for (int sort = 2; sort < 4; sort++) {
            long inf = Bits.of(sort, POSITIVE_INFINITY);
            long minus = Bits.of(sort, NEGATIVE_INFINITY);
            Check.yes("infinities", m.limits(sort, minus, inf));
            Check.yes("infinities", m.limits(sort, inf, inf));
            Check.yes("infinities", m.limits(sort, minus, minus));
            Check.yes("infinities", !m.limits(sort, inf, minus));
            Check.yes("infinities", !m.limits(sort, inf, inf - 1));
        }
    }

    private static void limitsFromNowOn() {
        Check.promised("An instrument's limits from now on");
        for (int sort = 0; sort < 4; sort++) {
            WeatherMast m = Masts.of(sort, sort);
            m.read(0, Bits.of(sort, 50));
            m.limits(0, Bits.of(sort, 1), Bits.of(sort, 5));
            Check.is("earlier readings", 0, m.alarms(0));
            m.read(0, Bits.of(sort, 6));
            m.read(0, 0);
            m.read(1, Bits.of(sort, 6));
            Check.is("later readings", 2, m.alarms(0));
            Check.is("another's readings", 0, m.alarms(1));
            m.limits(0, 0, Bits.of(sort, 6));
            Check.is("what was an alarm stays one", 2, m.alarms(0));
            m.read(0, Bits.of(sort, 6));
            m.read(0, 0);
            Check.is("the new limits", 2, m.alarms(0));
            Check.yes("out of order", !m.limits(0, Bits.of(sort, 6), 0));
            m.read(0, Bits.of(sort, 6));
            m.read(0, 0);
            m.read(0, Bits.of(sort, 3));
            Check.is("limits that are out of order stand, too", 5, m.alarms(0));
        }
    }

    // Promise 10

    private static void widestNoSort() {
        Check.promised("IllegalArgumentException when there is no such sort; NoSuchElementException when none of them has read anything.");
        WeatherMast m = Masts.of(0, 1, 2, 3);
        for (int sort : NO_SORTS) {
            Check.refuses("nothing read: " + sort, ARGUMENT, () -> m.widest(sort));
        }
        for (int i = 0; i < 4; i++) {
            m.read(i, 1);
        }
        for (int sort : NO_SORTS) {
            Check.refuses("all have read: " + sort, ARGUMENT, () -> m.widest(sort));
        }
    }

    private static void widestNothing() {
        Check.promised("NoSuchElementException when none of them has read anything.");
        for (int s = 0; s < 4; s++) {
            int sort = s;
            WeatherMast m = Masts.of((sort + 1) % 4, (sort + 2) % 4, (sort + 3) % 4);
            for (int i = 0; i < 3; i++) {
                m.read(i, 1);
                m.read(i, 5);
            }
            Check.refuses("none is mounted", NONE, () -> m.widest(sort));
            m.mount(sort);
            Check.refuses("none has read", NONE, () -> m.widest(sort));
            m.mount(sort);
            m.read(4, 5);
            Check.is("one has read once", 0, m.widest(sort));
            m.forget(4);
            Check.refuses("it forgot", NONE, () -> m.widest(sort));
        }
    }

    private static void widestOfLatest() {
        Check.promised("The greatest SWING of the latest readings of all instruments of a sort.");
        for (int sort = 0; sort < 4; sort++) {
            WeatherMast m = Masts.of(sort, sort, sort, sort, sort, sort, sort, sort);
            for (int i = 0; i < 8; i++) {
                m.read(i, Bits.of(sort, 100));
                m.read(i, Bits.of(sort, 101 + i));
                Check.is("it rises to " + (i + 1), Bits.of(sort, i + 1), m.widest(sort));
            }
            for (int i = 7; i > 0; i--) {
                m.read(i, Bits.of(sort, 101 + i));
                Check.is("it falls to " + i, Bits.of(sort, i), m.widest(sort));
            }
            m.read(5, Bits.of(sort, -94));
            Check.is("the one between", Bits.of(sort, 200), m.widest(sort));
            m.forget(5);
            Check.is("it forgot", Bits.of(sort, 1), m.widest(sort));
        }
        WeatherMast d = Masts.of(3, 3);
        Masts.reads(d, 0, INF_D, INF_D);
        Masts.reads(d, 1, 0, Bits.d(2));
        Check.is("infinities that are alike", Bits.d(2), d.widest(3));
        d.read(0, Bits.d(NEGATIVE_INFINITY));
        Check.is("infinities that are not", INF_D, d.widest(3));
    }

    private static void widestOfSort() {
        Check.promised("of all instruments of a sort");
        WeatherMast m = Masts.of(0, 1, 2, 3, 3, 2, 1, 0);
        for (int i = 0; i < 8; i++) {
            int sort = i < 4 ? i : 7 - i;
            m.read(i, 0);
            m.read(i, Bits.of(sort, -1 - i));
        }
        for (int sort = 0; sort < 4; sort++) {
            Check.is("sort " + sort, Bits.of(sort, 8 - sort), m.widest(sort));
        }
    }

    private static void widestBySign() {
        Check.promised("(Of COUNTS and TALLIES the greatest by their sign.)");
        long[] least = {MIN, Long.MIN_VALUE};
        for (int sort = 0; sort < 2; sort++) {
            for (int wraps = 0; wraps < 2; wraps++) {
                WeatherMast m = Masts.of(sort, sort);
                Masts.reads(m, wraps, 0, least[sort]);
                Check.is("it alone", least[sort], m.widest(sort));
                m.read(1 - wraps, 4);
                Check.is("0 is greater", 0, m.widest(sort));
                m.read(1 - wraps, 5);
                Check.is("1 is greater", 1, m.widest(sort));
                Masts.reads(m, 1 - wraps, 0, least[sort]);
                Check.is("both of them", least[sort], m.widest(sort));
            }
        }
    }

    // Promise 11

    private static void forgetNoInstrument() {
        Check.promised("how many readings there were since it was mounted, or forgot last. IndexOutOfBoundsException when there is no such instrument.");
        noInstrument((m, i) -> m.forget(i));
    }

    private static void forgetHowMany() {
        Check.promised("how many readings there were since it was mounted, or forgot last");
        for (int n : new int[] {0, 1, 15, 16, 17, 32, 200}) {
            WeatherMast m = Masts.of(0, 3);
            m.read(1, 0);
            Masts.reads(m, 0, new long[n]);
            Check.refuses("what was refused is no reading", ARGUMENT, () -> m.read(1, NO_NUMBER));
            Check.is("since it was mounted", n, m.forget(0));
            Check.is("again", 0, m.forget(0));
            Masts.reads(m, 0, 1, 2, 3);
            Check.is("since it forgot", 3, m.forget(0));
            Check.is("another's", 1, m.forget(1));
        }
    }

    private static void forgetGone() {
        Check.promised("What an instrument has read is gone (readings, LEAST, GREATEST, SWING, SUM;");
        for (int sort = 0; sort < 4; sort++) {
            WeatherMast m = Masts.of(sort, sort);
            for (int n = 0; n < 20; n++) {
                m.read(0, Bits.of(sort, 10 * n - 100));
            }
            m.read(1, Bits.of(sort, 7));
            m.forget(0);
            for (int i = 0; i < 17; i++) {
                int back = i;
                Check.refuses("readings", NONE, () -> m.reading(0, back));
            }
            for (int w = 0; w < 4; w++) {
                int what = w;
                Check.refuses("what is told", NONE, () -> m.tell(0, what));
            }
            Check.refuses("whole", NONE, () -> m.whole(0));
            long four = Bits.of(sort, 4);
            m.read(0, four);
            Masts.tells("begun anew", m, four, four, 0, four);
            Check.is("another's stay", Bits.of(sort, 7), m.reading(1, 0));
            Check.is("another's stay", Bits.of(sort, 7), m.tell(1, 3));
        }
    }

    private static void forgetStays() {
        Check.promised("the chain, limits and alarms stay)");
        for (int sort = 0; sort < 4; sort++) {
            WeatherMast m = Masts.of(sort, sort);
            m.read(1, Bits.of(sort, 8));
            m.step(0, 2, Bits.of(sort, 20));
            m.follow(0, 1, 1);
            m.limits(0, Bits.of(sort, 9), Bits.of(sort, 19));
            Masts.reads(m, 0, Bits.of(sort, 30), Bits.of(sort, 3), Bits.of(sort, 12));
            Check.is("readings gone", 3, m.forget(0));
            Check.is("alarms", 2, m.alarms(0));
            Check.is("the chain", Bits.of(sort, 20), m.read(0, Bits.of(sort, 30)));
            Check.is("HIGH", 3, m.alarms(0));
            Check.is("the chain", Bits.of(sort, 8), m.read(0, Bits.of(sort, 3)));
            Check.is("LOW", 4, m.alarms(0));
            Check.is("the chain", Bits.of(sort, 19), m.read(0, Bits.of(sort, 19)));
            Check.is("HIGH", 4, m.alarms(0));
            Check.is("the chain's length", 3, m.step(0, 0, 0));
            Check.is("readings ever", 7, m.count(1));
            Check.is("alarms ever", 4, m.count(2));
            Check.is("steps ever", 12, m.count(3));
            Check.is("instruments", 2, m.count(0));
        }
    }

    // Promise 12

    private static void alarmsNoInstrument() {
        Check.promised("How many alarms an instrument gave. IndexOutOfBoundsException when there is no such instrument.");
        noInstrument((m, i) -> m.alarms(i));
    }

    private static void alarmsOfOne() {
        Check.promised("How many alarms an instrument gave.");
        WeatherMast m = Masts.of(0, 1, 2, 3, 3, 2, 1, 0);
        for (int i = 0; i < 8; i++) {
            int sort = i < 4 ? i : 7 - i;
            Check.is("none at first", 0, m.alarms(i));
            m.limits(i, Bits.of(sort, 1), Bits.of(sort, 2));
            for (int n = 0; n < i; n++) {
                m.read(i, n % 2 == 0 ? Bits.of(sort, 3) : 0);
            }
            m.read(i, Bits.of(sort, 1));
        }
        for (int i = 0; i < 8; i++) {
            Check.is("instrument " + i, i, m.alarms(i));
        }
        Check.is("alarms ever", 28, m.count(2));
    }

    // Promise 13

    private static void countAnother() {
        Check.promised("-1 for another what.");
        WeatherMast empty = new WeatherMast();
        WeatherMast m = Masts.that(0, 1, 2, 3);
        for (int what : new int[] {-1, 4, 5, MIN, MAX}) {
            Check.is("empty: " + what, -1, empty.count(what));
            Check.is("used: " + what, -1, m.count(what));
        }
    }

    private static void countInstruments() {
        Check.promised("0 how many instruments");
        WeatherMast m = new WeatherMast();
        for (int n = 0; n < 8; n++) {
            Check.is("instruments", n, m.count(0));
            Check.refuses("mount", ARGUMENT, () -> m.mount(-1));
            m.mount(n % 4);
        }
        Check.is("instruments", 8, m.count(0));
        Check.refuses("mount", UNSUPPORTED, () -> m.mount(0));
        Check.is("instruments", 8, m.count(0));
    }

    private static void countReadings() {
        Check.promised("1 readings ever");
        WeatherMast m = Masts.of(0, 3);
        for (int n = 1; n <= 40; n++) {
            m.read(n % 2, 0);
            Check.refuses("no number", ARGUMENT, () -> m.read(1, NO_NUMBER));
            Check.refuses("no instrument", INDEX, () -> m.read(2, 0));
            Check.is("readings", n, m.count(1));
            m.forget(n % 3 == 0 ? 0 : 1);
            Check.is("forgotten ones, too", n, m.count(1));
        }
    }

    private static void countAlarms() {
        Check.promised("2 alarms ever");
        WeatherMast m = Masts.of(0, 3);
        m.limits(0, 5, 5);
        m.limits(1, Bits.d(5), Bits.d(-5));
        Masts.reads(m, 0, 4, 5, 6);
        Masts.reads(m, 1, 0, Bits.d(6));
        Check.is("alarms", 4, m.count(2));
        m.forget(0);
        m.forget(1);
        Check.is("forgotten ones, too", 4, m.count(2));
        Check.refuses("no number", ARGUMENT, () -> m.read(1, NO_NUMBER));
        Check.is("a refused one is none", 4, m.count(2));
    }

    private static void countSteps() {
        Check.promised("3 steps that were done ever");
        for (int steps = 0; steps <= 6; steps++) {
            WeatherMast m = Masts.of(3, 3);
            for (int n = 0; n < steps; n++) {
                Check.is("how many", n + 1, n % 2 == 0 ? m.step(0, n, 0) : m.follow(0, 7, 1));
            }
            Check.is("told, not done", 0, m.count(3));
            m.read(0, 0);
            m.read(1, 0);
            Check.is("one reading", steps, m.count(3));
            m.read(0, 0);
            Check.is("two readings", 2 * steps, m.count(3));
            Check.refuses("no number", ARGUMENT, () -> m.read(0, NO_NUMBER));
            m.forget(0);
            Check.is("refused, forgotten", 2 * steps, m.count(3));
        }
    }
}
