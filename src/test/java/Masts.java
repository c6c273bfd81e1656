/** Masts that tests begin with. */
final class Masts {
    private Masts() {}

    /** A mast with an instrument of each sort that is named. */
    static WeatherMast of(int... sorts) {
        WeatherMast m = new WeatherMast();
        for (int sort : sorts) {
            m.mount(sort);
        }
        return m;
    }

    /** A mast whose one instrument has read these numbers. */
    static WeatherMast that(int sort, long... numbers) {
        WeatherMast m = of(sort);
        reads(m, 0, numbers);
        return m;
    }

    static void reads(WeatherMast m, int instrument, long... numbers) {
        for (long number : numbers) {
            m.read(instrument, number);
        }
    }

    /** What a sort's new instrument makes of a number by one step. */
    static long stepped(int sort, int step, long k, long v) {
        WeatherMast m = of(sort);
        m.step(0, step, k);
        return m.read(0, v);
    }

    /** LEAST, GREATEST, SWING and SUM of instrument 0. */
    static void tells(String what, WeatherMast m, long least, long greatest, long swing, long sum) {
        Check.is(what + ": LEAST", least, m.tell(0, 0));
        Check.is(what + ": GREATEST", greatest, m.tell(0, 1));
        Check.is(what + ": SWING", swing, m.tell(0, 2));
        Check.is(what + ": SUM", sum, m.tell(0, 3));
    }
}
