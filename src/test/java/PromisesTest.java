import java.util.ArrayList;
import java.util.List;
import java.util.NoSuchElementException;

/** The document's thirteen promises: ordinary inputs, the edges that it names, and wrong inputs. */
public final class PromisesTest {
    private static final Class<IndexOutOfBoundsException> INDEX = IndexOutOfBoundsException.class;
    private static final Class<IllegalArgumentException> ARGUMENT = IllegalArgumentException.class;
    private static final Class<IllegalStateException> STATE = IllegalStateException.class;
    private static final Class<NoSuchElementException> NONE = NoSuchElementException.class;
    private static final Class<UnsupportedOperationException> UNSUPPORTED = UnsupportedOperationException.class;

    private static final double INF = Double.POSITIVE_INFINITY;
    private static final long NAN_F = 0x7fc00000L;
    private static final long NAN_D = 0x7ff8000000000000L;
    private static final long INT_MIN = Integer.MIN_VALUE;
    private static final long INT_MAX = Integer.MAX_VALUE;

    public static void main(String[] args) {
        newObject();
        mount();
        stepArguments();
        stepsOfAllSorts();
        stepsOfFloats();
        follow();
        read();
        reading();
        tell();
        tellOfFloats();
        whole();
        limits();
        widest();
        forget();
        alarms();
        count();
        refusedCallsChangeNothing();
        Check.end();
    }

    // Promise 1
    private static void newObject() {
        WeatherMast m = new WeatherMast();
        for (int what = 0; what < 4; what++) {
            Check.is("new: count " + what, 0, m.count(what));
        }
        Check.refuses("new: alarms(0)", INDEX, () -> m.alarms(0));
        for (int sort = 0; sort < 4; sort++) {
            int s = sort;
            Check.refuses("new: widest " + s, NONE, () -> m.widest(s));
        }
        WeatherMast other = Masts.of(0, 1);
        Check.is("objects share nothing", 0, m.count(0));
        Check.is("objects share nothing", 2, other.count(0));
    }

    // Promise 2
    private static void mount() {
        WeatherMast m = new WeatherMast();
        Check.refuses("mount(-1)", ARGUMENT, () -> m.mount(-1));
        Check.refuses("mount(4)", ARGUMENT, () -> m.mount(4));
        Check.refuses("mount(least)", ARGUMENT, () -> m.mount(Integer.MIN_VALUE));
        Check.refuses("mount(greatest)", ARGUMENT, () -> m.mount(Integer.MAX_VALUE));
        for (int i = 0; i < 8; i++) {
            Check.is("mount", i, m.mount(i % 4));
        }
        for (int sort = 0; sort < 4; sort++) {
            int s = sort;
            Check.refuses("the ninth", UNSUPPORTED, () -> m.mount(s));
        }
        Check.refuses("the ninth, of no sort", ARGUMENT, () -> m.mount(4));
        Check.is("eight stand", 8, m.count(0));
    }

    // Promise 3
    private static void stepArguments() {
        WeatherMast m = Masts.of(0, 1, 2, 3);
        for (int i : new int[] {-1, 4, 8, Integer.MIN_VALUE, Integer.MAX_VALUE}) {
            Check.refuses("step: no instrument " + i, INDEX, () -> m.step(i, 99, NAN_D));
        }
        for (int sort = 0; sort < 4; sort++) {
            int s = sort;
            int most = sort < 2 ? 2 : 7;
            Check.refuses("step -1 of sort " + s, ARGUMENT, () -> m.step(s, -1, 0));
            Check.refuses("step beyond of sort " + s, ARGUMENT, () -> m.step(s, most + 1, 0));
            Check.is("last step of sort " + s, 1, m.step(s, most, 0));
        }
        for (int step : new int[] {1, 2, 7}) {
            Check.refuses("single K no number", ARGUMENT, () -> m.step(2, step, NAN_F));
            Check.refuses("single K no number, below 0", ARGUMENT, () -> m.step(2, step, -1L));
            Check.refuses("double K no number", ARGUMENT, () -> m.step(3, step, NAN_D));
            Check.refuses("double K just no number", ARGUMENT, () -> m.step(3, step, Bits.d(INF) + 1));
        }
        Check.is("counts know no such bits", 2, m.step(0, 1, NAN_F));
        Check.is("tallies know no such bits", 2, m.step(1, 1, NAN_D));
        int have = 1;
        for (int step : new int[] {0, 3, 4, 5, 6}) {
            have++;
            Check.is("K does not matter", have, m.step(3, step, NAN_D));
        }
        Check.refuses("a seventh step", STATE, () -> m.step(3, 0, 0));
        Check.refuses("a seventh step without K, no number", STATE, () -> m.step(3, 0, NAN_D));
        Check.refuses("a seventh step, no such", ARGUMENT, () -> m.step(3, 8, 0));
        Check.refuses("a seventh step, K no number", ARGUMENT, () -> m.step(3, 1, NAN_D));
        Check.is("the upper bits of a single do not matter", 2, m.step(2, 1, NAN_D | Bits.f(1)));
    }

    private static void stepsOfAllSorts() {
        Check.is("AMOUNT of a count", 5, Masts.stepped(0, 0, 0, -5));
        Check.is("AMOUNT of the least count", INT_MIN, Masts.stepped(0, 0, 0, INT_MIN));
        Check.is("AMOUNT of a tally", 1L << 40, Masts.stepped(1, 0, 0, -(1L << 40)));
        Check.is("AMOUNT of the least tally", Long.MIN_VALUE, Masts.stepped(1, 0, 0, Long.MIN_VALUE));
        Check.is("AMOUNT of a single", Bits.f(2.5), Masts.stepped(2, 0, 0, Bits.f(-2.5)));
        Check.is("AMOUNT of -0", Bits.d(0), Masts.stepped(3, 0, 0, Bits.d(-0.0)));
        Check.is("AMOUNT of -infinity", Bits.f(INF), Masts.stepped(2, 0, 0, Bits.f(-INF)));

        Check.is("AT LEAST by the sign", 3, Masts.stepped(0, 1, 3, -7));
        Check.is("AT LEAST leaves what is greater", 9, Masts.stepped(0, 1, 3, 9));
        Check.is("K of a count is its lowest bits", -1, Masts.stepped(0, 1, 0xffffffffL, -7));
        Check.is("AT MOST by the sign", -7, Masts.stepped(1, 2, 3, -7));
        Check.is("AT MOST cuts", 3, Masts.stepped(1, 2, 3, Long.MAX_VALUE));
        Check.is("AT LEAST: -0 is below 0", Bits.d(0), Masts.stepped(3, 1, Bits.d(0), Bits.d(-0.0)));
        Check.is("AT LEAST: 0 is above -0", Bits.d(0), Masts.stepped(3, 1, Bits.d(-0.0), Bits.d(0)));
        Check.is("AT MOST: -0 is below 0", Bits.f(-0.0), Masts.stepped(2, 2, Bits.f(-0.0), Bits.f(0)));
        Check.is("AT MOST: 0 is above -0", Bits.f(-0.0), Masts.stepped(2, 2, Bits.f(0), Bits.f(-0.0)));
        Check.is("AT LEAST of two below 0", Bits.f(-1), Masts.stepped(2, 1, Bits.f(-1), Bits.f(-2)));
        Check.is("AT MOST of two below 0", Bits.f(-2), Masts.stepped(2, 2, Bits.f(-1), Bits.f(-2)));
        Check.is("AT LEAST -infinity", Bits.d(-INF), Masts.stepped(3, 1, Bits.d(-INF), Bits.d(-INF)));
    }

    private static void stepsOfFloats() {
        double[] from = {2.5, -2.5, 1.5, -1.5, 0.5, -0.5, 0.75, -0.75, 0.25, -0.25, 3, -3, 0, -0.0, INF, -INF, 3.5};
        double[] down = {2, -3, 1, -2, 0, -1, 0, -1, 0, -1, 3, -3, 0, -0.0, INF, -INF, 3};
        double[] up = {3, -2, 2, -1, 1, -0.0, 1, -0.0, 1, -0.0, 3, -3, 0, -0.0, INF, -INF, 4};
        double[] nearest = {2, -2, 2, -2, 0, -0.0, 1, -1, 0, -0.0, 3, -3, 0, -0.0, INF, -INF, 4};
        double[] sign = {1, -1, 1, -1, 1, -1, 1, -1, 1, -1, 1, -1, 0, -0.0, 1, -1, 1};
        double[][] due = {down, up, nearest, sign};
        for (int i = 0; i < from.length; i++) {
            for (int step = 3; step <= 6; step++) {
                String what = "step " + step + " of " + from[i];
                double v = due[step - 3][i];
                Check.is("single " + what, Bits.f(v), Masts.stepped(2, step, 0, Bits.f(from[i])));
                Check.is("double " + what, Bits.d(v), Masts.stepped(3, step, 0, Bits.d(from[i])));
            }
        }
        Check.is("LIKE 1", Bits.d(2), Masts.stepped(3, 7, Bits.d(1), Bits.d(-2)));
        Check.is("LIKE -1", Bits.d(-2), Masts.stepped(3, 7, Bits.d(-1), Bits.d(2)));
        Check.is("LIKE 0", Bits.f(2), Masts.stepped(2, 7, Bits.f(0), Bits.f(-2)));
        Check.is("LIKE -0", Bits.f(-2), Masts.stepped(2, 7, Bits.f(-0.0), Bits.f(2)));
        Check.is("0 LIKE -1", Bits.f(-0.0), Masts.stepped(2, 7, Bits.f(-1), Bits.f(0)));
        Check.is("infinity LIKE -1", Bits.d(-INF), Masts.stepped(3, 7, Bits.d(-1), Bits.d(INF)));
    }

    // Promise 4
    private static void follow() {
        WeatherMast m = Masts.of(3, 3, 2, 0, 0);
        Check.refuses("follow: no instrument", INDEX, () -> m.follow(5, 9, 0));
        Check.refuses("follow: no other", INDEX, () -> m.follow(0, 9, 5));
        Check.refuses("follow: other below 0", INDEX, () -> m.follow(0, 1, -1));
        Check.refuses("follow: instrument below 0", INDEX, () -> m.follow(-1, 1, 0));
        for (int step : new int[] {-1, 0, 3, 4, 5, 6, 8}) {
            Check.refuses("follow: step " + step, ARGUMENT, () -> m.follow(0, step, 1));
        }
        Check.refuses("follow: LIKE of counts", ARGUMENT, () -> m.follow(3, 7, 4));
        Check.refuses("follow: another sort", ARGUMENT, () -> m.follow(0, 1, 2));

        Check.is("follow", 1, m.follow(0, 1, 1));
        Check.is("K is 0 at first", Bits.d(0), m.read(0, Bits.d(-4)));
        m.read(1, Bits.d(2));
        Check.is("K is the other's latest", Bits.d(2), m.read(0, Bits.d(-4)));
        m.read(1, Bits.d(-3));
        Check.is("K is the other's latest now", Bits.d(-3), m.read(0, Bits.d(-4)));
        m.forget(1);
        Check.is("K is 0 when the other forgot", Bits.d(0), m.read(0, Bits.d(-4)));

        Check.is("follow itself", 1, m.follow(3, 1, 3));
        Check.is("the reading ahead: none", 0, m.read(3, -5));
        Check.is("the reading ahead: 0", 8, m.read(3, 8));
        Check.is("the reading ahead: 8", 8, m.read(3, 3));

        Check.is("like another single", 1, m.follow(2, 7, 2));
        Check.is("like 0", Bits.f(1), m.read(2, Bits.f(-1)));

        for (int i = 2; i <= 6; i++) {
            Check.is("follow", i, m.follow(0, 7, 0));
        }
        Check.refuses("follow: a seventh", STATE, () -> m.follow(0, 1, 1));
        Check.refuses("follow: a seventh, of another sort", ARGUMENT, () -> m.follow(0, 1, 2));
        Check.refuses("follow: a seventh, without K", ARGUMENT, () -> m.follow(0, 3, 1));
        Check.refuses("step: a seventh", STATE, () -> m.step(0, 1, 0));
    }

    // Promise 5
    private static void read() {
        WeatherMast m = Masts.of(0, 1, 2, 3);
        Check.refuses("read: no instrument", INDEX, () -> m.read(4, NAN_D));
        Check.refuses("read: below 0", INDEX, () -> m.read(-1, 0));
        Check.is("a count is the lowest bits", -2, m.read(0, 0x12345678fffffffeL));
        Check.is("a count is no single", NAN_F, m.read(0, NAN_F));
        Check.is("a tally is all bits", 0x12345678fffffffeL, m.read(1, 0x12345678fffffffeL));
        Check.is("a single has its sign", Bits.f(-1.5), m.read(2, Bits.f(-1.5) & 0xffffffffL));
        Check.is("upper bits of a single do not matter", Bits.f(1.5), m.read(2, NAN_D | Bits.f(1.5)));
        Check.is("infinity is a number", Bits.f(INF), m.read(2, Bits.f(INF)));
        Check.is("-infinity is a number", Bits.d(-INF), m.read(3, Bits.d(-INF)));
        for (long bits : new long[] {NAN_F, 0x7f800001L, 0x7fffffffL, 0xff800001L, -1L}) {
            Check.refuses("no single", ARGUMENT, () -> m.read(2, bits));
        }
        for (long bits : new long[] {NAN_D, Bits.d(INF) + 1, Bits.d(-INF) + 1, Long.MAX_VALUE, -1L}) {
            Check.refuses("no double", ARGUMENT, () -> m.read(3, bits));
        }
        WeatherMast c = Masts.of(3);
        c.step(0, 2, Bits.d(2.5));
        c.step(0, 5, 0);
        c.step(0, 7, Bits.d(-1));
        c.step(0, 1, Bits.d(-1.75));
        Check.is("the first step first", Bits.d(-1.75), c.read(0, Bits.d(7)));
        Check.is("the first step first", Bits.d(-1), c.read(0, Bits.d(0.75)));
    }

    // Promise 6
    private static void reading() {
        WeatherMast m = Masts.of(0, 2);
        Check.refuses("reading: no instrument", INDEX, () -> m.reading(2, -1));
        Check.refuses("reading: nothing read", NONE, () -> m.reading(0, 0));
        for (int n = 1; n <= 40; n++) {
            m.read(0, -n);
            int kept = Math.min(n, 16);
            Check.is("the latest", -n, m.reading(0, 0));
            Check.is("the last one kept", -(n - kept + 1), m.reading(0, kept - 1));
            Check.refuses("kept no more, or not yet read", NONE, () -> m.reading(0, kept));
        }
        for (int i = 0; i < 16; i++) {
            Check.is("each one kept", i - 40, m.reading(0, i));
        }
        Check.refuses("reading -1", NONE, () -> m.reading(0, -1));
        Check.refuses("reading least", NONE, () -> m.reading(0, Integer.MIN_VALUE));
        Check.refuses("reading greatest", NONE, () -> m.reading(0, Integer.MAX_VALUE));
        Check.refuses("another instrument's are not its own", NONE, () -> m.reading(1, 0));
        m.step(1, 0, 0);
        m.read(1, Bits.f(-2));
        Check.is("what came out is kept", Bits.f(2), m.reading(1, 0));
    }

    // Promise 7
    private static void tell() {
        WeatherMast m = Masts.of(0);
        Check.refuses("tell: no instrument", INDEX, () -> m.tell(1, 9));
        Check.refuses("tell -1", ARGUMENT, () -> m.tell(0, -1));
        Check.refuses("tell 4", ARGUMENT, () -> m.tell(0, 4));
        for (int what = 0; what < 4; what++) {
            int w = what;
            Check.refuses("tell: nothing read", NONE, () -> m.tell(0, w));
        }
        m.read(0, -5);
        Masts.tells("one count", m, -5, -5, 0, 5);
        m.read(0, 7);
        Masts.tells("two counts", m, -5, 7, 12, 12);
        m.read(0, 1);
        Masts.tells("three counts", m, -5, 7, 6, 13);
        m.read(0, INT_MIN);
        Masts.tells("the least count", m, INT_MIN, 7, INT_MAX, INT_MIN + 13);
        m.read(0, 0);
        Masts.tells("a swing that wraps", m, INT_MIN, 7, INT_MIN, INT_MIN + 13);
        m.read(0, INT_MIN);
        Masts.tells("a sum that wraps", m, INT_MIN, 7, INT_MIN, 13);
        m.read(0, INT_MAX);
        Masts.tells("a difference that wraps", m, INT_MIN, INT_MAX, 1, INT_MIN + 12);

        WeatherMast t = Masts.of(1);
        t.read(0, Long.MAX_VALUE);
        t.read(0, Long.MIN_VALUE);
        Masts.tells("tallies wrap", t, Long.MIN_VALUE, Long.MAX_VALUE, 1, -1);
        t.read(0, 1L << 40);
        Masts.tells("tallies are wide", t, Long.MIN_VALUE, Long.MAX_VALUE, Long.MAX_VALUE - (1L << 40) + 1, (1L << 40) - 1);
        for (int i = 0; i < 20; i++) {
            t.read(0, 1);
        }
        Masts.tells("of all readings, not of those kept", t, Long.MIN_VALUE, Long.MAX_VALUE, 0, (1L << 40) + 19);
    }

    private static void tellOfFloats() {
        WeatherMast z = Masts.of(3);
        z.read(0, Bits.d(0));
        z.read(0, Bits.d(-0.0));
        Masts.tells("zeros", z, Bits.d(-0.0), Bits.d(0), 0, 0);
        z.read(0, Bits.d(0));
        Masts.tells("zeros", z, Bits.d(-0.0), Bits.d(0), 0, 0);

        WeatherMast n = Masts.of(2);
        n.read(0, Bits.f(-0.0));
        Masts.tells("-0 alone", n, Bits.f(-0.0), Bits.f(-0.0), 0, 0);

        WeatherMast i = Masts.of(3);
        i.read(0, Bits.d(INF));
        i.read(0, Bits.d(INF));
        Masts.tells("infinities alike", i, Bits.d(INF), Bits.d(INF), 0, Bits.d(INF));
        i.read(0, Bits.d(-INF));
        Masts.tells("infinities apart", i, Bits.d(-INF), Bits.d(INF), Bits.d(INF), Bits.d(INF));
        i.read(0, Bits.d(-INF));
        Masts.tells("infinities alike", i, Bits.d(-INF), Bits.d(INF), 0, Bits.d(INF));
        i.read(0, Bits.d(1));
        Masts.tells("from infinity", i, Bits.d(-INF), Bits.d(INF), Bits.d(INF), Bits.d(INF));

        WeatherMast s = Masts.of(2);
        s.read(0, Bits.f(16777216));
        s.read(0, Bits.f(-1));
        Masts.tells("a half to the even one", s, Bits.f(-1), Bits.f(16777216), Bits.f(16777216), Bits.f(16777216));
        s.read(0, Bits.f(3));
        Masts.tells("rounded one by one", s, Bits.f(-1), Bits.f(16777216), Bits.f(4), Bits.f(16777220));

        WeatherMast d = Masts.of(3);
        d.read(0, Bits.d(0.1));
        d.read(0, Bits.d(0.2));
        Masts.tells("rounded", d, Bits.d(0.1), Bits.d(0.2), Bits.d(0.2 - 0.1), Bits.d(0.1 + 0.2));
        d.read(0, Bits.d(-Double.MAX_VALUE));
        d.read(0, Bits.d(Double.MAX_VALUE));
        Masts.tells("beyond is infinite", d, Bits.d(-Double.MAX_VALUE), Bits.d(Double.MAX_VALUE), Bits.d(INF), Bits.d(INF));
    }

    // Promise 8
    private static void wholeIs(int sort, long bits, int due) {
        WeatherMast m = Masts.of(sort);
        m.read(0, bits);
        Check.is("whole of sort " + sort + ", bits " + bits, due, m.whole(0));
    }

    private static void whole() {
        WeatherMast m = Masts.of(3);
        Check.refuses("whole: no instrument", INDEX, () -> m.whole(1));
        Check.refuses("whole: nothing read", NONE, () -> m.whole(0));
        wholeIs(0, -7, -7);
        wholeIs(0, INT_MIN, Integer.MIN_VALUE);
        wholeIs(1, 7, 7);
        wholeIs(1, INT_MAX + 1, Integer.MAX_VALUE);
        wholeIs(1, INT_MIN - 1, Integer.MIN_VALUE);
        wholeIs(1, Long.MIN_VALUE, Integer.MIN_VALUE);
        double[] floats = {0, -0.0, 0.99, -0.99, 1, -1, 1.99, -1.99, 2.5, -2.5, 1e6, 16777217, 1073741952, -1073741952,
            2147483520.0, 2147483647.0, 2147483646.9, 2147483648.0, -2147483648.0, -2147483649.0, -2147483647.5,
            1e30, -1e30, INF, -INF, Float.MIN_VALUE, -Double.MIN_VALUE};
        for (double v : floats) {
            wholeIs(2, Bits.f(v), (int) (float) v);
            wholeIs(3, Bits.d(v), (int) v);
        }
        m.read(0, Bits.d(5.5));
        m.read(0, Bits.d(6.5));
        Check.is("the latest", 6, m.whole(0));
    }

    // Promise 9
    private static void limits() {
        WeatherMast m = Masts.of(0, 1, 2, 3);
        Check.refuses("limits: no instrument", INDEX, () -> m.limits(4, NAN_D, NAN_D));
        Check.refuses("low no number", ARGUMENT, () -> m.limits(3, NAN_D, 0));
        Check.refuses("high no number", ARGUMENT, () -> m.limits(3, 0, NAN_D));
        Check.refuses("high no single", ARGUMENT, () -> m.limits(2, 0, NAN_F));
        Check.refuses("low no single", ARGUMENT, () -> m.limits(2, NAN_F, 0));
        Check.yes("in order", m.limits(0, -1, 1));
        Check.yes("the same", m.limits(0, 1, 1));
        Check.yes("out of order", !m.limits(0, 2, 1));
        Check.yes("lowest bits", m.limits(0, 5L << 32, 1));
        Check.yes("all bits", !m.limits(1, 5L << 32, 1));
        Check.yes("0 is not above -0", m.limits(3, Bits.d(0), Bits.d(-0.0)));
        Check.yes("0 is not above -0", m.limits(2, Bits.f(0), Bits.f(-0.0)));
        Check.yes("-1 is above -2", !m.limits(2, Bits.f(-1), Bits.f(-2)));
        Check.yes("infinities", m.limits(3, Bits.d(-INF), Bits.d(INF)));
        Check.yes("infinities out of order", !m.limits(3, Bits.d(INF), Bits.d(-INF)));
    }

    // Promise 10
    private static void widest() {
        WeatherMast m = Masts.of(0, 0, 3, 3, 1);
        Check.refuses("widest -1", ARGUMENT, () -> m.widest(-1));
        Check.refuses("widest 4", ARGUMENT, () -> m.widest(4));
        Check.refuses("nothing read", NONE, () -> m.widest(0));
        m.read(0, 0);
        Check.is("one reading", 0, m.widest(0));
        Check.refuses("nothing read of another sort", NONE, () -> m.widest(3));
        Check.refuses("nothing mounted of another sort", NONE, () -> m.widest(2));
        m.read(0, INT_MIN);
        Check.is("a swing that wraps", INT_MIN, m.widest(0));
        m.read(1, 5);
        Check.is("the greatest by the sign", 0, m.widest(0));
        m.read(1, 8);
        Check.is("the greatest", 3, m.widest(0));
        m.forget(1);
        Check.is("one that forgot does not count", INT_MIN, m.widest(0));
        m.forget(0);
        Check.refuses("all forgot", NONE, () -> m.widest(0));
        m.read(2, Bits.d(1));
        m.read(2, Bits.d(9));
        m.read(3, Bits.d(1));
        m.read(3, Bits.d(-2));
        Check.is("doubles", Bits.d(8), m.widest(3));
        m.read(2, Bits.d(9));
        Check.is("of the latest readings", Bits.d(3), m.widest(3));
    }

    // Promise 11
    private static void forget() {
        WeatherMast m = Masts.of(0, 0);
        Check.refuses("forget: no instrument", INDEX, () -> m.forget(2));
        Check.is("nothing was read", 0, m.forget(0));
        m.step(0, 1, -50);
        m.limits(0, -10, 10);
        for (int i = 0; i < 20; i++) {
            m.read(0, -100);
        }
        m.read(1, 3);
        Check.is("all readings, kept or not", 20, m.forget(0));
        Check.is("again", 0, m.forget(0));
        Check.refuses("readings are gone", NONE, () -> m.reading(0, 0));
        Check.refuses("whole is gone", NONE, () -> m.whole(0));
        for (int what = 0; what < 4; what++) {
            int w = what;
            Check.refuses("what is told is gone", NONE, () -> m.tell(0, w));
        }
        Check.is("alarms stay", 20, m.alarms(0));
        Check.is("readings ever stay", 21, m.count(1));
        Check.is("the chain and limits stay", -50, m.read(0, -200));
        Check.is("the chain and limits stay", 21, m.alarms(0));
        Masts.tells("begun anew", m, -50, -50, 0, 50);
        Check.refuses("only the new ones are kept", NONE, () -> m.reading(0, 1));
        Check.is("since it forgot last", 1, m.forget(0));
        Check.is("others stay", 3, m.reading(1, 0));
    }

    // Promise 12
    private static void alarms() {
        WeatherMast m = Masts.of(0, 3, 2, 1);
        Check.refuses("alarms: no instrument", INDEX, () -> m.alarms(4));
        Check.refuses("alarms: below 0", INDEX, () -> m.alarms(-1));
        long[][] edges = {{INT_MIN, INT_MAX}, {Bits.d(-INF), Bits.d(INF)}, {Bits.f(-INF), Bits.f(INF)},
            {Long.MIN_VALUE, Long.MAX_VALUE}};
        for (int i = 0; i < 4; i++) {
            m.read(i, edges[i][0]);
            m.read(i, edges[i][1]);
            Check.is("no alarm at first", 0, m.alarms(i));
        }
        m.limits(0, -2, 2);
        long[] counts = {-3, -2, 0, 2, 3};
        int[] due = {1, 1, 1, 1, 2};
        for (int i = 0; i < counts.length; i++) {
            m.read(0, counts[i]);
            Check.is("alarms of counts", due[i], m.alarms(0));
        }
        m.limits(0, 5, -5);
        m.read(0, 0);
        Check.is("below and above is one alarm", 3, m.alarms(0));
        m.limits(1, Bits.d(0), Bits.d(-0.0));
        m.read(1, Bits.d(-0.0));
        m.read(1, Bits.d(0));
        Check.is("-0 and 0 are alike", 0, m.alarms(1));
        m.read(1, Bits.d(Double.MIN_VALUE));
        m.read(1, Bits.d(-Double.MIN_VALUE));
        Check.is("just beyond", 2, m.alarms(1));
        m.step(2, 0, 0);
        m.limits(2, Bits.f(0), Bits.f(3));
        m.read(2, Bits.f(-2));
        Check.is("what comes out counts", 0, m.alarms(2));
        m.read(2, Bits.f(-4));
        Check.is("what comes out counts", 1, m.alarms(2));
        m.limits(2, Bits.f(4), Bits.f(4));
        Check.is("limits are for later readings", 1, m.alarms(2));
    }

    // Promise 13
    private static void count() {
        WeatherMast m = Masts.of(0, 3);
        for (int what : new int[] {-1, 4, Integer.MIN_VALUE, Integer.MAX_VALUE}) {
            Check.is("count of nothing such", -1, m.count(what));
        }
        m.step(0, 0, 0);
        m.step(0, 1, 3);
        Check.is("steps are not done by being told", 0, m.count(3));
        m.read(0, 1);
        m.step(0, 2, 9);
        m.read(0, 1);
        m.limits(1, Bits.d(1), Bits.d(2));
        m.read(1, Bits.d(3));
        m.read(1, Bits.d(1));
        m.limits(0, 100, 200);
        m.read(0, 1);
        m.forget(0);
        m.forget(1);
        Check.is("instruments", 2, m.count(0));
        Check.is("readings ever", 5, m.count(1));
        Check.is("alarms ever", 2, m.count(2));
        Check.is("steps ever", 8, m.count(3));
    }

    private static List<Object> state(WeatherMast m) {
        List<Object> all = new ArrayList<>();
        for (int what = 0; what < 4; what++) {
            int w = what;
            all.add(m.count(w));
            all.add(Check.outcome(() -> m.widest(w)));
            for (int i = 0; i < 2; i++) {
                int it = i;
                all.add(Check.outcome(() -> m.tell(it, w)));
                all.add(Check.outcome(() -> m.reading(it, w)));
                all.add(Check.outcome(() -> m.whole(it)));
                all.add(m.alarms(it));
            }
        }
        return all;
    }

    // "A call that throws changes nothing."
    private static void refusedCallsChangeNothing() {
        WeatherMast m = Masts.of(3, 0);
        m.step(0, 2, Bits.d(100));
        m.limits(0, Bits.d(1), Bits.d(5));
        m.read(0, Bits.d(3));
        m.read(0, Bits.d(7));
        List<Object> before = state(m);
        Check.refuses("limits", ARGUMENT, () -> m.limits(0, Bits.d(200), NAN_D));
        Check.refuses("limits", ARGUMENT, () -> m.limits(0, NAN_D, Bits.d(-200)));
        Check.refuses("read", ARGUMENT, () -> m.read(0, NAN_D));
        Check.refuses("step", ARGUMENT, () -> m.step(0, 1, NAN_D));
        Check.refuses("follow", ARGUMENT, () -> m.follow(0, 1, 1));
        Check.refuses("forget", INDEX, () -> m.forget(2));
        Check.refuses("mount", ARGUMENT, () -> m.mount(7));
        Check.same("nothing is changed", before, state(m));
        Check.is("the chain has one step", 2, m.step(0, 0, 0));
        m.read(0, Bits.d(5));
        Check.is("the limits are the old ones", 1, m.alarms(0));
        m.read(0, Bits.d(5.5));
        Check.is("the limits are the old ones", 2, m.alarms(0));
        Check.is("two steps were done", 6, m.count(3));
        Check.is("the next one's number", 2, m.mount(0));
    }
}
