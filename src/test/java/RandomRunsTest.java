import java.util.Random;

/** Runs of 512 random calls, each answer held against the model's. */
public final class RandomRunsTest {
    private static final int RUNS = 1500;
    private static final int CALLS = 512;

    private static final long[] NUMBERS = {0, 1, -1, 2, -2, 7, -100, Integer.MIN_VALUE, Integer.MAX_VALUE, Long.MIN_VALUE,
        Long.MAX_VALUE, 1L << 31, 1L << 32, Bits.f(0.5), Bits.f(-0.5), Bits.f(1.5), Bits.f(-2.5), Bits.f(1e9), Bits.f(-3e9),
        Bits.f(Float.POSITIVE_INFINITY), Bits.f(Float.NEGATIVE_INFINITY), Bits.f(Float.MAX_VALUE), 0x7f800001L, Bits.d(0.5),
        Bits.d(-0.5), Bits.d(1.5), Bits.d(-2.5), Bits.d(1e9), Bits.d(-3e9), Bits.d(Double.POSITIVE_INFINITY),
        Bits.d(Double.NEGATIVE_INFINITY), Bits.d(Double.MAX_VALUE), Bits.d(Double.MIN_NORMAL), 0x7ff0000000000001L};

    private final Random random;
    private final WeatherMast mast = new WeatherMast();
    private final Model model = new Model();

    private RandomRunsTest(long seed) {
        random = new Random(seed);
    }

    public static void main(String[] args) {
        for (int run = 0; run < RUNS; run++) {
            RandomRunsTest test = new RandomRunsTest(run);
            for (int call = 0; call < CALLS; call++) {
                test.oneCall("run " + run + ", call " + call + ": ");
            }
        }
        Check.end();
    }

    private int instrument() {
        return random.nextInt(40) == 0 ? random.nextInt(20) - 8 : random.nextInt(8);
    }

    private long number() {
        switch (random.nextInt(4)) {
            case 0: return NUMBERS[random.nextInt(NUMBERS.length)];
            case 1: return Bits.f(random.nextGaussian() * 10);
            case 2: return Bits.d(random.nextGaussian() * 10);
            default: return random.nextInt(8) == 0 ? random.nextLong() : random.nextInt(21) - 10;
        }
    }

    private void oneCall(String where) {
        int i = instrument();
        int j = instrument();
        int small = random.nextInt(10) - 1;
        int far = random.nextInt(20) - 1;
        long a = number();
        long b = number();
        switch (random.nextInt(30)) {
            case 0: case 1: same(where + "mount " + small, () -> model.mount(small % 5), () -> mast.mount(small % 5)); break;
            case 2: same(where + "step", () -> model.step(i, small, a), () -> mast.step(i, small, a)); break;
            case 3: same(where + "follow", () -> model.follow(i, small, j), () -> mast.follow(i, small, j)); break;
            case 4: case 5: case 6: same(where + "reading", () -> model.reading(i, far), () -> mast.reading(i, far)); break;
            case 7: case 8: same(where + "whole", () -> model.whole(i), () -> mast.whole(i)); break;
            case 9: same(where + "limits", () -> model.limits(i, a, b), () -> mast.limits(i, a, b)); break;
            case 10: same(where + "widest", () -> model.widest(small % 5), () -> mast.widest(small % 5)); break;
            case 11: if (far == 0) { same(where + "forget", () -> model.forget(i), () -> mast.forget(i)); } break;
            case 12: same(where + "alarms", () -> model.alarms(i), () -> mast.alarms(i)); break;
            case 13: same(where + "count", () -> model.count(small), () -> mast.count(small)); break;
            case 14: case 15: case 16: case 17:
                same(where + "tell", () -> model.tell(i, small % 5), () -> mast.tell(i, small % 5)); break;
            default: same(where + "read", () -> model.read(i, a), () -> mast.read(i, a)); break;
        }
    }

    private static void same(String where, Check.Call due, Check.Call got) {
        Check.same(where, Check.outcome(due), Check.outcome(got));
    }
}
