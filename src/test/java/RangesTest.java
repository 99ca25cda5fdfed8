/**
 * Each range that a promise or the settings name: the last number within it and the first one outside, on both
 * sides. A call outside, and a call that only asks, leaves the object as it was.
 */
public final class RangesTest {
    private static final int NO_SUCH = -1, BAD_VALUE = -2, NONE = -6;
    private static final Checks CHECKS = new Checks();

    private interface Argument {
        int on(SkipPermits permits, int value);
    }

    private static final class Range {
        final String call;
        final Checks.State state;
        final Argument argument;

        Range(String call, Checks.State state, Argument argument) {
            this.call = call;
            this.state = state;
            this.argument = argument;
        }

        /** The last number within, of a call that is a change. */
        Range edge(int value, int answer) {
            CHECKS.answer(call + " of " + value, state, answer, x -> argument.on(x, value));
            return this;
        }

        /** The last number within, of a call that only asks. */
        Range asks(int value, int answer) {
            CHECKS.unchanged(call + " of " + value, state, answer, x -> argument.on(x, value));
            return this;
        }

        void outside(int below, int above, int error) {
            int[] values = {below, above, Integer.MIN_VALUE, Integer.MAX_VALUE};
            for (int value : values) {
                CHECKS.unchanged(call + " of " + value, state, error, x -> argument.on(x, value));
            }
        }
    }

    private static Range range(String call, Checks.State state, Argument argument) {
        return new Range(call, state, argument);
    }

    public static void main(String[] args) {
        settings();
        settingsTakeEffectAtTheirEdges();
        places();
        put();
        skipsThatThereAre();
        skipsWhenThereIsNone();
        skipsWhenThereAreTen();
        permit();
        growth();
        pass();
        skip();
        street();
        customer();
        count();
        cost();
        bestSwap();
        slots();
        CHECKS.end();
    }

    private static void settings() {
        range("2: set(.., 1)", States::settled, (x, value) -> x.set(value, 1))
            .edge(0, 3).edge(7, 5).outside(-1, 8, BAD_VALUE);
        int[][] rows = {{0, 20, 3}, {0, 20, 2}, {0, 90, 15}, {0, 90, 10}, {0, 9, 1}, {0, 90, 25}, {1, 30, 7}, {0, 9, 5}};
        for (int row = 0; row < rows.length; row++) {
            int setting = row;
            int low = rows[row][0], high = rows[row][1], previous = rows[row][2];
            range("2: set(" + setting + ", ..)", States::settled, (x, value) -> x.set(setting, value))
                .edge(low, previous).edge(high, previous).outside(low - 1, high + 1, BAD_VALUE);
            range("2: what is set then, " + setting, States::settled, (x, value) -> setAndCount(x, setting, value))
                .edge(low, low).edge(high, high);
        }
    }

    private static int setAndCount(SkipPermits x, int setting, int value) {
        x.set(setting, value);
        return x.count(setting);
    }

    private static void settingsTakeEffectAtTheirEdges() {
        range("2: a day with HIRE", States::settled, (x, value) -> setAndPass(x, SkipPermits.HIRE, value))
            .edge(0, 30).edge(20, 30 + 20 + 80 + 40);
        range("2: a permit with PERMIT", States::settled, (x, value) -> setAndPermit(x, value))
            .edge(0, 0).edge(20, 20);
        range("2: a day with FINE", States::settled, (x, value) -> setAndPass(x, SkipPermits.FINE, value))
            .edge(0, 3 + 12 + 6).edge(90, 3 + 12 + 6 + 2 * 90);
        range("2: a night with DARK", RangesTest::inTheDark, (x, value) -> setAndPass(x, SkipPermits.DARK, value))
            .edge(0, 3 + 15).edge(90, 3 + 15 + 90);
        range("2: a swap with TIP", States::settled, (x, value) -> setAndSwap(x, SkipPermits.TIP, value))
            .edge(0, 25).edge(9, 25 + 9 * 14);
        range("2: a swap with TRIP", States::settled, (x, value) -> setAndSwap(x, SkipPermits.TRIP, value))
            .edge(0, 14).edge(90, 90 + 14);
        range("2: a lamp with OIL", States::settled, (x, value) -> setAndFill(x, value)).edge(1, 1).edge(30, 30);
        range("2: trips with TRIPS", States::fresh, (x, value) -> setAndMakeTrips(x, value)).edge(0, 0).edge(9, 9);
    }

    /** One skip in a street, whose lamp has just gone out. */
    private static SkipPermits inTheDark() {
        SkipPermits x = new SkipPermits();
        x.put(0, 0, 0, 0);
        x.pass(7);
        return x;
    }

    private static int setAndPass(SkipPermits x, int setting, int value) {
        x.set(setting, value);
        return x.pass(1);
    }

    private static int setAndSwap(SkipPermits x, int setting, int value) {
        int before = x.customer(0, 0);
        x.set(setting, value);
        x.swap(0);
        return x.customer(0, 0) - before;
    }

    private static int setAndPermit(SkipPermits x, int value) {
        int before = x.customer(0, 0);
        x.set(SkipPermits.PERMIT, value);
        x.permit(0, 1);
        return x.customer(0, 0) - before;
    }

    private static int setAndFill(SkipPermits x, int value) {
        x.set(SkipPermits.OIL, value);
        x.oil(0);
        return x.skip(0, 6);
    }

    private static int setAndMakeTrips(SkipPermits x, int value) {
        x.set(SkipPermits.TRIPS, value);
        int made = 0;
        for (int i = 0; i < 10; i++) {
            if (x.put(0, 0, 5, 0) >= 0) {
                made++;
            }
        }
        return made;
    }

    private static void places() {
        range("3: places(.., 1)", States::settled, (x, value) -> x.places(value, 1))
            .edge(0, 2).edge(4, 2).outside(-1, 5, NO_SUCH);
        range("3: places(4, ..)", States::settled, (x, value) -> x.places(4, value))
            .edge(1, 2).edge(4, 2).outside(0, 5, BAD_VALUE);
        range("3: places of street 4 then", States::settled, (x, value) -> {
            x.places(4, value);
            return x.street(4, 0);
        }).edge(1, 1).edge(4, 4);
    }

    private static void put() {
        range("4: put customer", States::settled, (x, value) -> x.put(value, 0, 1, 0))
            .edge(0, 3).edge(5, 3).outside(-1, 6, NO_SUCH);
        range("4: put size", States::settled, (x, value) -> x.put(0, value, 1, 0))
            .edge(0, 3).edge(3, 3).outside(-1, 4, BAD_VALUE);
        range("4: put street", States::settled, (x, value) -> x.put(0, 0, value, 0))
            .edge(0, 3).edge(4, 3).edge(5, 3).outside(-1, 6, NO_SUCH);
        range("4: put growth", States::settled, (x, value) -> x.put(0, 0, 1, value))
            .edge(0, 3).edge(30, 3).outside(-1, 31, BAD_VALUE);
        range("4: its customer", States::settled, (x, value) -> x.skip(x.put(value, 0, 1, 0), 0)).edge(0, 0).edge(5, 5);
        range("4: what it holds", States::settled, (x, value) -> x.skip(x.put(0, value, 1, 0), 4)).edge(0, 20).edge(3, 80);
        range("4: its street", States::settled, (x, value) -> x.skip(x.put(0, 0, value, 0), 2)).edge(0, 0).edge(5, 5);
        range("4: its growth", States::settled, (x, value) -> x.skip(x.put(0, 0, 1, value), 5)).edge(0, 0).edge(30, 30);
    }

    private static void skipsThatThereAre() {
        range("5: swap(..)", States::settled, (x, value) -> x.swap(value)).edge(0, 14).edge(2, 6).outside(-1, 3, NO_SUCH);
        range("6: take(..)", States::settled, (x, value) -> x.take(value)).edge(0, 14).edge(2, 6).outside(-1, 3, NO_SUCH);
        range("7: permit(.., 1)", States::settled, (x, value) -> x.permit(value, 1))
            .edge(0, 2).edge(1, 3).outside(-1, 3, NO_SUCH);
        range("8: oil(..)", States::settled, (x, value) -> x.oil(value)).edge(0, 5).edge(2, 7).outside(-1, 3, NO_SUCH);
        range("9: growth(.., 1)", States::settled, (x, value) -> x.growth(value, 1))
            .edge(0, 7).edge(2, 3).outside(-1, 3, NO_SUCH);
        range("12: skip(.., 0)", States::settled, (x, value) -> x.skip(value, 0))
            .asks(0, 0).asks(2, 2).outside(-1, 3, NO_SUCH);
        range("16: untilFull(..)", States::settled, (x, value) -> x.untilFull(value))
            .asks(0, 1).asks(2, 12).outside(-1, 3, NO_SUCH);
        range("17: untilFine(..)", States::settled, (x, value) -> x.untilFine(value))
            .asks(0, 1).asks(2, NONE).outside(-1, 3, NO_SUCH);
        range("19: bestSwap(.., 1, 0)", States::settled, (x, value) -> x.bestSwap(value, 1, 0))
            .asks(0, 0).asks(2, 1).outside(-1, 3, NO_SUCH);
    }

    private static void skipsWhenThereIsNone() {
        range("5: swap without skips", States::fresh, (x, value) -> x.swap(value)).outside(-1, 0, NO_SUCH);
        range("6: take without skips", States::fresh, (x, value) -> x.take(value)).outside(-1, 0, NO_SUCH);
        range("7: permit without skips", States::fresh, (x, value) -> x.permit(value, 1)).outside(-1, 0, NO_SUCH);
        range("8: oil without skips", States::fresh, (x, value) -> x.oil(value)).outside(-1, 0, NO_SUCH);
        range("9: growth without skips", States::fresh, (x, value) -> x.growth(value, 1)).outside(-1, 0, NO_SUCH);
        range("12: skip without skips", States::fresh, (x, value) -> x.skip(value, 0)).outside(-1, 0, NO_SUCH);
        range("16: untilFull without skips", States::fresh, (x, value) -> x.untilFull(value)).outside(-1, 0, NO_SUCH);
        range("17: untilFine without skips", States::fresh, (x, value) -> x.untilFine(value)).outside(-1, 0, NO_SUCH);
        range("19: bestSwap without skips", States::fresh, (x, value) -> x.bestSwap(value, 1, 0)).outside(-1, 0, NO_SUCH);
    }

    private static void skipsWhenThereAreTen() {
        range("5: swap of ten", States::tenSkips, (x, value) -> x.swap(value)).edge(9, 0).outside(-1, 10, NO_SUCH);
        range("6: take of ten", States::tenSkips, (x, value) -> x.take(value)).edge(9, 0).outside(-1, 10, NO_SUCH);
        range("7: permit of ten", States::tenSkips, (x, value) -> x.permit(value, 1)).edge(1, 1).outside(-1, 10, NO_SUCH);
        range("8: oil of ten", States::tenSkips, (x, value) -> x.oil(value)).edge(9, 7).outside(-1, 10, NO_SUCH);
        range("9: growth of ten", States::tenSkips, (x, value) -> x.growth(value, 1)).edge(9, 9).outside(-1, 10, NO_SUCH);
        range("12: skip of ten", States::tenSkips, (x, value) -> x.skip(value, 5)).asks(9, 9).outside(-1, 10, NO_SUCH);
        range("16: untilFull of ten", States::tenSkips, (x, value) -> x.untilFull(value))
            .asks(9, 9).outside(-1, 10, NO_SUCH);
        range("17: untilFine of ten", States::tenSkips, (x, value) -> x.untilFine(value))
            .asks(9, NONE).outside(-1, 10, NO_SUCH);
        range("19: bestSwap of ten", States::tenSkips, (x, value) -> x.bestSwap(value, 9, 0))
            .asks(9, 8).outside(-1, 10, NO_SUCH);
    }

    private static void permit() {
        range("7: permit(0, ..)", States::settled, (x, value) -> x.permit(0, value))
            .edge(1, 2).edge(99, 100).outside(0, 100, BAD_VALUE);
    }

    private static void growth() {
        range("9: growth(1, ..)", States::settled, (x, value) -> x.growth(1, value))
            .edge(0, 30).edge(30, 30).outside(-1, 31, BAD_VALUE);
        range("9: its growth then", States::settled, (x, value) -> {
            x.growth(0, value);
            return x.skip(0, 5);
        }).edge(0, 0).edge(30, 30);
    }

    private static void pass() {
        int daily = 3 + 12 + 6 + 2 * 15;
        range("10: pass(..)", States::settled, (x, value) -> x.pass(value))
            .edge(1, daily).edge(99, 99 * daily + 2 * 94 * 10).outside(0, 100, BAD_VALUE);
        range("10: the day then", States::settled, (x, value) -> {
            x.pass(value);
            return x.count(8);
        }).edge(1, 3).edge(99, 101);
    }

    private static void skip() {
        range("12: skip(1, ..)", States::settled, (x, value) -> x.skip(1, value))
            .asks(0, 1).asks(10, 140).outside(-1, 11, BAD_VALUE);
    }

    private static void street() {
        range("13: street(.., 0)", States::settled, (x, value) -> x.street(value, 0))
            .asks(0, 2).asks(4, 2).outside(-1, 5, NO_SUCH);
        range("13: street(0, ..)", States::settled, (x, value) -> x.street(0, value))
            .asks(0, 2).asks(2, 1).outside(-1, 3, BAD_VALUE);
    }

    private static void customer() {
        range("14: customer(.., 0)", States::settled, (x, value) -> x.customer(value, 0))
            .asks(0, 61).asks(5, 0).outside(-1, 6, NO_SUCH);
        range("14: customer(0, ..)", States::settled, (x, value) -> x.customer(0, value))
            .asks(0, 61).asks(3, 30).outside(-1, 4, BAD_VALUE);
    }

    private static void count() {
        range("15: count(..)", States::settled, (x, value) -> x.count(value))
            .asks(0, 3).asks(18, 6).outside(-1, 19, BAD_VALUE);
    }

    private static void cost() {
        range("18: cost(.., 1)", States::settled, (x, value) -> x.cost(value, 1))
            .asks(0, 18).asks(5, 0).outside(-1, 6, NO_SUCH);
        range("18: cost(0, ..)", States::settled, (x, value) -> x.cost(0, value))
            .asks(0, 0).asks(200, 200 * 18 + 195 * 10).outside(-1, 201, BAD_VALUE);
    }

    private static void bestSwap() {
        range("19: bestSwap(0, .., 0)", States::settled, (x, value) -> x.bestSwap(0, value, 0))
            .asks(1, 0).asks(60, 57).outside(0, 61, BAD_VALUE);
        range("19: bestSwap(0, 1, ..)", States::settled, (x, value) -> x.bestSwap(0, 1, value))
            .asks(0, 0).asks(1, 0).outside(-1, 2, BAD_VALUE);
    }

    private static void slots() {
        range("25: save(..)", States::settled, (x, value) -> x.save(value)).edge(0, 3).edge(1, 3).outside(-1, 2, BAD_VALUE);
        range("26: restore(..)", States::bothSaved, (x, value) -> x.restore(value))
            .edge(0, 2).edge(1, 3).outside(-1, 2, BAD_VALUE);
    }
}
