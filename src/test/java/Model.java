import java.util.ArrayList;
import java.util.List;
import java.util.NoSuchElementException;

/** The document in its plainest form, with lists and Java's library: what random runs are held against. */
final class Model {
    static final class Instrument {
        int sort;
        final List<long[]> chain = new ArrayList<>(); // step, K, other or -1
        final List<Long> readings = new ArrayList<>();
        long low;
        long high;
        int alarms;
    }

    private final List<Instrument> all = new ArrayList<>();
    private int readingsEver;
    private int alarmsEver;
    private int stepsEver;

    private static double value(int sort, long bits) {
        return sort == 2 ? Float.intBitsToFloat((int) bits) : Double.longBitsToDouble(bits);
    }

    private static long bits(int sort, double v) {
        return sort == 2 ? Bits.f(v) : Bits.d(v);
    }

    private static long heard(int sort, long bits) {
        return sort % 2 == 0 ? (int) bits : bits;
    }

    private static boolean isNumber(int sort, long bits) {
        return sort < 2 || !Double.isNaN(value(sort, bits));
    }

    private static int compare(int sort, long a, long b) {
        return sort < 2 ? Long.compare(a, b) : Double.compare(value(sort, a), value(sort, b));
    }

    private static boolean above(int sort, long a, long b) {
        return sort < 2 ? a > b : value(sort, a) > value(sort, b);
    }

    private static long amount(int sort, long v) {
        return sort < 2 ? heard(sort, Math.abs(v)) : bits(sort, Math.abs(value(sort, v)));
    }

    private static boolean takesK(int step) {
        return step == 1 || step == 2 || step == 7;
    }

    private static boolean hasStep(int sort, int step) {
        return step >= 0 && step <= (sort < 2 ? 2 : 7);
    }

    private Instrument at(int i) {
        if (i < 0 || i >= all.size()) {
            throw new IndexOutOfBoundsException();
        }
        return all.get(i);
    }

    private static void require(boolean holds) {
        if (!holds) {
            throw new IllegalArgumentException();
        }
    }

    private static void some(boolean holds) {
        if (!holds) {
            throw new NoSuchElementException();
        }
    }

    int mount(int sort) {
        require(sort >= 0 && sort <= 3);
        if (all.size() == 8) {
            throw new UnsupportedOperationException();
        }
        Instrument it = new Instrument();
        it.sort = sort;
        it.low = new long[] {Integer.MIN_VALUE, Long.MIN_VALUE, bits(2, Float.NEGATIVE_INFINITY), bits(3, Double.NEGATIVE_INFINITY)}[sort];
        it.high = new long[] {Integer.MAX_VALUE, Long.MAX_VALUE, bits(2, Float.POSITIVE_INFINITY), bits(3, Double.POSITIVE_INFINITY)}[sort];
        all.add(it);
        return all.size() - 1;
    }

    private static int lengthen(Instrument it, long step, long k, long other) {
        if (it.chain.size() == 6) {
            throw new IllegalStateException();
        }
        it.chain.add(new long[] {step, k, other});
        return it.chain.size();
    }

    int step(int instrument, int step, long k) {
        Instrument it = at(instrument);
        require(hasStep(it.sort, step) && (!takesK(step) || isNumber(it.sort, k)));
        return lengthen(it, step, heard(it.sort, k), -1);
    }

    int follow(int instrument, int step, int other) {
        Instrument it = at(instrument);
        Instrument followed = at(other);
        require(hasStep(it.sort, step) && takesK(step) && it.sort == followed.sort);
        return lengthen(it, step, 0, other);
    }

    private long kOf(long[] step) {
        if (step[2] < 0) {
            return step[1];
        }
        List<Long> readings = all.get((int) step[2]).readings;
        return readings.isEmpty() ? 0 : readings.get(readings.size() - 1);
    }

    private static long afterStep(int sort, int step, long v, long k) {
        switch (step) {
            case 0: return amount(sort, v);
            case 1: return compare(sort, v, k) > 0 ? v : k;
            case 2: return compare(sort, v, k) < 0 ? v : k;
            case 3: return bits(sort, Math.floor(value(sort, v)));
            case 4: return bits(sort, Math.ceil(value(sort, v)));
            case 5: return bits(sort, Math.rint(value(sort, v)));
            case 6: return bits(sort, Math.signum(value(sort, v)));
            default: return bits(sort, Math.copySign(value(sort, v), value(sort, k)));
        }
    }

    long read(int instrument, long bits) {
        Instrument it = at(instrument);
        require(isNumber(it.sort, bits));
        long v = heard(it.sort, bits);
        for (long[] step : it.chain) {
            v = afterStep(it.sort, (int) step[0], v, kOf(step));
            stepsEver++;
        }
        it.readings.add(v);
        readingsEver++;
        if (above(it.sort, it.low, v) || above(it.sort, v, it.high)) {
            it.alarms++;
            alarmsEver++;
        }
        return v;
    }

    long reading(int instrument, int i) {
        Instrument it = at(instrument);
        some(i >= 0 && i < 16 && i < it.readings.size());
        return it.readings.get(it.readings.size() - 1 - i);
    }

    private static long swing(Instrument it) {
        int n = it.readings.size();
        if (n < 2) {
            return 0;
        }
        long a = it.readings.get(n - 1);
        long b = it.readings.get(n - 2);
        if (it.sort == 0) {
            return Math.abs((int) a - (int) b);
        }
        if (it.sort == 1) {
            return Math.abs(a - b);
        }
        double x = value(it.sort, a);
        double y = value(it.sort, b);
        return x == y ? 0 : it.sort == 2 ? Bits.f(Math.abs((float) x - (float) y)) : Bits.d(Math.abs(x - y));
    }

    private static long sum(Instrument it) {
        int count = 0;
        long tally = 0;
        float single = 0;
        double real = 0;
        for (long v : it.readings) {
            count += Math.abs((int) v);
            tally += Math.abs(v);
            if (it.sort >= 2) {
                single += Math.abs((float) value(it.sort, v));
                real += Math.abs(value(it.sort, v));
            }
        }
        return new long[] {count, tally, Bits.f(single), Bits.d(real)}[it.sort];
    }

    long tell(int instrument, int what) {
        Instrument it = at(instrument);
        require(what >= 0 && what <= 3);
        some(!it.readings.isEmpty());
        if (what >= 2) {
            return what == 2 ? swing(it) : sum(it);
        }
        return it.readings.stream().sorted((a, b) -> what == 0 ? compare(it.sort, a, b) : compare(it.sort, b, a)).findFirst().get();
    }

    int whole(int instrument) {
        Instrument it = at(instrument);
        some(!it.readings.isEmpty());
        long v = it.readings.get(it.readings.size() - 1);
        return it.sort >= 2 ? (int) value(it.sort, v) : (int) Math.max(Integer.MIN_VALUE, Math.min(Integer.MAX_VALUE, v));
    }

    boolean limits(int instrument, long low, long high) {
        Instrument it = at(instrument);
        require(isNumber(it.sort, low) && isNumber(it.sort, high));
        it.low = heard(it.sort, low);
        it.high = heard(it.sort, high);
        return !above(it.sort, it.low, it.high);
    }

    long widest(int sort) {
        require(sort >= 0 && sort <= 3);
        return all.stream().filter(it -> it.sort == sort && !it.readings.isEmpty()).map(Model::swing)
                .max((a, b) -> compare(sort, a, b)).orElseThrow(NoSuchElementException::new);
    }

    int forget(int instrument) {
        Instrument it = at(instrument);
        int gone = it.readings.size();
        it.readings.clear();
        return gone;
    }

    int alarms(int instrument) {
        return at(instrument).alarms;
    }

    int count(int what) {
        return what < 0 || what > 3 ? -1 : new int[] {all.size(), readingsEver, alarmsEver, stepsEver}[what];
    }
}
