import java.util.ArrayList;
import java.util.List;
import java.util.NoSuchElementException;

/**
 * "A call that throws changes nothing": after each refused call a mast answers all that may be
 * asked, and all that is done to it, as its twin does that was never asked the refused one.
 */
public final class RefusedCallsTest {
    private static final Class<IndexOutOfBoundsException> INDEX = IndexOutOfBoundsException.class;
    private static final Class<IllegalArgumentException> ARGUMENT = IllegalArgumentException.class;
    private static final Class<IllegalStateException> STATE = IllegalStateException.class;
    private static final Class<NoSuchElementException> NONE = NoSuchElementException.class;
    private static final Class<UnsupportedOperationException> UNSUPPORTED = UnsupportedOperationException.class;
    private static final long NO_NUMBER = -1;

    private interface Begin {
        WeatherMast mast();
    }

    private interface Refused {
        Object call(WeatherMast m);
    }

    public static void main(String[] args) {
        Check.promised("A call that throws changes nothing.");
        ofAnEmptyMast();
        ofAMastThatReadNothing();
        ofAUsedMast();
        ofAFullMast();
        Check.end();
    }

    private static void ofAnEmptyMast() {
        Begin begin = WeatherMast::new;
        noInstrument(begin, 0);
        refused("mount", begin, ARGUMENT, m -> m.mount(4));
        refused("mount", begin, ARGUMENT, m -> m.mount(-1));
        for (int s = 0; s < 4; s++) {
            int sort = s;
            refused("widest", begin, NONE, m -> m.widest(sort));
        }
    }

    private static void ofAMastThatReadNothing() {
        Begin begin = () -> Masts.of(0, 1, 2, 3);
        for (int i = 0; i < 4; i++) {
            int it = i;
            refused("reading", begin, NONE, m -> m.reading(it, 0));
            refused("tell", begin, NONE, m -> m.tell(it, 0));
            refused("tell", begin, ARGUMENT, m -> m.tell(it, 4));
            refused("whole", begin, NONE, m -> m.whole(it));
            refused("widest", begin, NONE, m -> m.widest(it));
        }
    }

    /** Each sort has read more than is kept, has steps that are told and that follow, and limits. */
    private static WeatherMast used() {
        WeatherMast m = Masts.of(0, 1, 2, 3);
        for (int sort = 0; sort < 4; sort++) {
            m.step(sort, 2, Bits.of(sort, 6));
            m.follow(sort, 1, sort);
            m.limits(sort, Bits.of(sort, -1), Bits.of(sort, 5));
            for (int n = 0; n < 18; n++) {
                m.read(sort, Bits.of(sort, n % 7 - 3));
            }
        }
        return m;
    }

    private static void ofAUsedMast() {
        Begin begin = RefusedCallsTest::used;
        noInstrument(begin, 4);
        refused("mount", begin, ARGUMENT, m -> m.mount(4));
        refused("widest", begin, ARGUMENT, m -> m.widest(4));
        for (int i = 0; i < 4; i++) {
            int it = i;
            refused("no such step", begin, ARGUMENT, m -> m.step(it, 8, 0));
            refused("no such step", begin, ARGUMENT, m -> m.step(it, -1, 0));
            refused("follow without K", begin, ARGUMENT, m -> m.follow(it, 0, it));
            refused("follow no such step", begin, ARGUMENT, m -> m.follow(it, 8, it));
            refused("follow another sort", begin, ARGUMENT, m -> m.follow(it, 1, (it + 1) % 4));
            refused("reading", begin, NONE, m -> m.reading(it, 16));
            refused("reading", begin, NONE, m -> m.reading(it, -1));
            refused("tell", begin, ARGUMENT, m -> m.tell(it, 4));
            refused("tell", begin, ARGUMENT, m -> m.tell(it, -1));
        }
        for (int s = 2; s < 4; s++) {
            int sort = s;
            long one = Bits.of(sort, 1);
            refused("read no number", begin, ARGUMENT, m -> m.read(sort, NO_NUMBER));
            refused("LOW no number", begin, ARGUMENT, m -> m.limits(sort, NO_NUMBER, one));
            refused("HIGH no number", begin, ARGUMENT, m -> m.limits(sort, one, NO_NUMBER));
            refused("limits no numbers", begin, ARGUMENT, m -> m.limits(sort, NO_NUMBER, NO_NUMBER));
            for (int step : new int[] {1, 2, 7}) {
                refused("K no number", begin, ARGUMENT, m -> m.step(sort, step, NO_NUMBER));
            }
        }
    }

    /** Eight instruments; those below 4 have full chains. */
    private static WeatherMast full() {
        WeatherMast m = used();
        for (int sort = 0; sort < 4; sort++) {
            m.mount(sort);
            for (int n = 2; n < 6; n++) {
                m.follow(sort, 1 + n % 2, sort + 4);
            }
            m.read(sort + 4, Bits.of(sort, 2));
        }
        return m;
    }

    private static void ofAFullMast() {
        Begin begin = RefusedCallsTest::full;
        noInstrument(begin, 8);
        refused("mount", begin, ARGUMENT, m -> m.mount(4));
        for (int i = 0; i < 4; i++) {
            int it = i;
            refused("mount the ninth", begin, UNSUPPORTED, m -> m.mount(it));
            refused("the seventh step", begin, STATE, m -> m.step(it, 0, 0));
            refused("the seventh step", begin, STATE, m -> m.step(it, 1, 3));
            refused("the seventh step follows", begin, STATE, m -> m.follow(it, 2, it + 4));
        }
    }

    private static void noInstrument(Begin begin, int mounted) {
        for (int wrong : new int[] {-1, mounted, Integer.MIN_VALUE, Integer.MAX_VALUE}) {
            refused("step", begin, INDEX, m -> m.step(wrong, 0, 0));
            refused("follow", begin, INDEX, m -> m.follow(wrong, 1, 0));
            refused("follow", begin, INDEX, m -> m.follow(0, 1, wrong));
            refused("read", begin, INDEX, m -> m.read(wrong, 1));
            refused("reading", begin, INDEX, m -> m.reading(wrong, 0));
            refused("tell", begin, INDEX, m -> m.tell(wrong, 0));
            refused("whole", begin, INDEX, m -> m.whole(wrong));
            refused("limits", begin, INDEX, m -> m.limits(wrong, 1, 1));
            refused("forget", begin, INDEX, m -> m.forget(wrong));
            refused("alarms", begin, INDEX, m -> m.alarms(wrong));
        }
    }

    private static void refused(String what, Begin begin, Class<? extends RuntimeException> due, Refused refused) {
        WeatherMast asked = begin.mast();
        WeatherMast twin = begin.mast();
        Check.refuses(what, due, () -> refused.call(asked));
        Check.same("after " + what, afterwards(twin), afterwards(asked));
    }

    /** What is there is asked first, and then what chains, limits and free places show only by use. */
    private static List<Object> afterwards(WeatherMast m) {
        List<Object> all = new ArrayList<>();
        asked(m, all);
        used(m, all);
        for (int what = 0; what < 4; what++) {
            all.add(m.count(what));
        }
        for (int n = 0; n < 9; n++) {
            int sort = n % 4;
            all.add(Check.outcome(() -> m.mount(sort)));
        }
        return all;
    }

    private static void asked(WeatherMast m, List<Object> all) {
        for (int w = 0; w < 4; w++) {
            int what = w;
            all.add(m.count(what));
            all.add(Check.outcome(() -> m.widest(what)));
            for (int i = 0; i < 8; i++) {
                int it = i;
                all.add(Check.outcome(() -> m.tell(it, what)));
            }
        }
        for (int i = 0; i < 8; i++) {
            int it = i;
            all.add(Check.outcome(() -> m.whole(it)));
            all.add(Check.outcome(() -> m.alarms(it)));
            for (int b = 0; b < 17; b++) {
                int back = b;
                all.add(Check.outcome(() -> m.reading(it, back)));
            }
        }
    }

    private static void used(WeatherMast m, List<Object> all) {
        for (int i = 0; i < m.count(0); i++) {
            int it = i;
            int sort = i % 4;
            for (double v : new double[] {6, 1, -2}) {
                all.add(m.read(i, Bits.of(sort, v)));
            }
            // Else the readings ahead, which are followed, would hide what is below them from LOW.
            all.add(m.forget(i));
            for (double v : new double[] {0, 1, 5, 6, -2}) {
                all.add(m.read(i, Bits.of(sort, v)));
                all.add(m.alarms(i));
            }
            all.add(Check.outcome(() -> m.step(it, 0, 0)));
            all.add(m.forget(i));
        }
    }
}
