/**
 * Each error by itself, and each pair of errors that can apply at once: the one named first is returned. Every
 * call here leaves the object as it was.
 */
public final class ErrorsTest {
    private static final int NO_SUCH = -1, BAD_VALUE = -2, BAD_TEXT = -3, TOO_MANY = -4, NOT_POSSIBLE = -5, NONE = -6;
    private static final Checks CHECKS = new Checks();

    private static void refused(String name, Checks.State state, int error, Checks.Call call) {
        CHECKS.unchanged(name, state, error, call);
    }

    public static void main(String[] args) {
        set();
        places();
        putByItself();
        putNoSuchFirst();
        putBadValueNext();
        putNotPossibleBeforeTooMany();
        swap();
        take();
        permit();
        growth();
        pass();
        run();
        queries();
        whatIfs();
        write();
        undo();
        slots();
        noneIsNoError();
        CHECKS.end();
    }

    private static void set() {
        refused("2: no such setting, below", States::settled, BAD_VALUE, x -> x.set(-1, 0));
        refused("2: no such setting, above", States::settled, BAD_VALUE, x -> x.set(8, 0));
        refused("2: no such setting, value out of range", States::settled, BAD_VALUE, x -> x.set(8, -1));
        refused("2: OIL 0", States::settled, BAD_VALUE, x -> x.set(SkipPermits.OIL, 0));
    }

    private static void places() {
        refused("3: no such street", States::settled, NO_SUCH, x -> x.places(5, 1));
        refused("3: places out of range", States::settled, BAD_VALUE, x -> x.places(4, 5));
        refused("3: no such street before places, above", States::settled, NO_SUCH, x -> x.places(5, 5));
        refused("3: no such street before places, below", States::settled, NO_SUCH, x -> x.places(-1, 0));
    }

    private static void putByItself() {
        refused("4: no such customer", States::settled, NO_SUCH, x -> x.put(6, 0, 0, 0));
        refused("4: no such street", States::settled, NO_SUCH, x -> x.put(0, 0, 6, 0));
        refused("4: size out of range", States::settled, BAD_VALUE, x -> x.put(0, 4, 0, 0));
        refused("4: growth out of range", States::settled, BAD_VALUE, x -> x.put(0, 0, 0, 31));
        refused("4: no place free", States::fullStreet, NOT_POSSIBLE, x -> x.put(0, 0, 0, 0));
        refused("4: no trip left for a street", States::noTrip, NOT_POSSIBLE, x -> x.put(0, 0, 0, 0));
        refused("4: no trip left for a drive", States::noTrip, NOT_POSSIBLE, x -> x.put(0, 0, 5, 0));
        refused("4: ten skips, on a drive", States::tenSkips, TOO_MANY, x -> x.put(0, 0, 5, 0));
        refused("4: ten skips, in a street", States::tenSkips, TOO_MANY, x -> x.put(0, 0, 1, 0));
    }

    private static void putNoSuchFirst() {
        refused("4: customer and street", States::settled, NO_SUCH, x -> x.put(-1, 0, 6, 0));
        refused("4: customer before size", States::settled, NO_SUCH, x -> x.put(6, 4, 0, 0));
        refused("4: customer before growth", States::settled, NO_SUCH, x -> x.put(6, 0, 0, 31));
        refused("4: customer before a full street", States::fullStreet, NO_SUCH, x -> x.put(6, 0, 0, 0));
        refused("4: customer before no trip", States::noTrip, NO_SUCH, x -> x.put(6, 0, 5, 0));
        refused("4: customer before ten skips", States::tenSkips, NO_SUCH, x -> x.put(6, 0, 5, 0));
        refused("4: street before size", States::settled, NO_SUCH, x -> x.put(0, -1, 6, 0));
        refused("4: street before growth", States::settled, NO_SUCH, x -> x.put(0, 0, -1, 31));
        refused("4: street before no trip", States::noTrip, NO_SUCH, x -> x.put(0, 0, 6, 0));
        refused("4: street before ten skips", States::tenSkips, NO_SUCH, x -> x.put(0, 0, -1, 0));
        refused("4: all at once", States::tenSkipsNoTrip, NO_SUCH, x -> x.put(6, 4, 6, 31));
    }

    private static void putBadValueNext() {
        refused("4: size and growth", States::settled, BAD_VALUE, x -> x.put(0, 4, 0, -1));
        refused("4: size before a full street", States::fullStreet, BAD_VALUE, x -> x.put(0, 4, 0, 0));
        refused("4: size before no trip", States::noTrip, BAD_VALUE, x -> x.put(0, -1, 5, 0));
        refused("4: size before ten skips", States::tenSkips, BAD_VALUE, x -> x.put(0, 4, 5, 0));
        refused("4: growth before a full street", States::fullStreet, BAD_VALUE, x -> x.put(0, 0, 0, 31));
        refused("4: growth before no trip", States::noTrip, BAD_VALUE, x -> x.put(0, 0, 5, -1));
        refused("4: growth before ten skips", States::tenSkips, BAD_VALUE, x -> x.put(0, 0, 5, 31));
    }

    private static void putNotPossibleBeforeTooMany() {
        refused("4: a full street and no trip", ErrorsTest::fullStreetNoTrip, NOT_POSSIBLE, x -> x.put(0, 0, 0, 0));
        refused("4: a full street before ten skips", States::tenSkips, NOT_POSSIBLE, x -> x.put(0, 0, 0, 0));
        refused("4: no trip before ten skips", States::tenSkipsNoTrip, NOT_POSSIBLE, x -> x.put(0, 0, 5, 0));
        refused("4: a full street, no trip and ten skips", States::tenSkipsNoTrip, NOT_POSSIBLE, x -> x.put(0, 0, 0, 0));
    }

    private static SkipPermits fullStreetNoTrip() {
        SkipPermits x = States.fullStreet();
        x.set(SkipPermits.TRIPS, 2);
        return x;
    }

    private static void swap() {
        refused("5: no such skip", States::settled, NO_SUCH, x -> x.swap(3));
        refused("5: no trip left", States::noTrip, NOT_POSSIBLE, x -> x.swap(0));
        refused("5: no trip left, on a drive", States::noTrip, NOT_POSSIBLE, x -> x.swap(1));
        refused("5: no such skip before no trip", States::noTrip, NO_SUCH, x -> x.swap(2));
        refused("5: no such skip before no trip, below", States::noTrip, NO_SUCH, x -> x.swap(-1));
    }

    private static void take() {
        refused("6: no such skip", States::settled, NO_SUCH, x -> x.take(3));
        refused("6: no trip left", States::noTrip, NOT_POSSIBLE, x -> x.take(0));
        refused("6: no trip left, on a drive", States::noTrip, NOT_POSSIBLE, x -> x.take(1));
        refused("6: no such skip before no trip", States::noTrip, NO_SUCH, x -> x.take(2));
        refused("6: no such skip before no trip, below", States::noTrip, NO_SUCH, x -> x.take(-1));
    }

    private static void permit() {
        refused("7: no such skip", States::settled, NO_SUCH, x -> x.permit(3, 1));
        refused("7: days out of range", States::settled, BAD_VALUE, x -> x.permit(0, 0));
        refused("7: on a drive", States::settled, NOT_POSSIBLE, x -> x.permit(2, 1));
        refused("7: no such skip before days", States::settled, NO_SUCH, x -> x.permit(3, 100));
        refused("7: days before a drive, below", States::settled, BAD_VALUE, x -> x.permit(2, 0));
        refused("7: days before a drive, above", States::settled, BAD_VALUE, x -> x.permit(2, 100));
    }

    private static void growth() {
        refused("9: no such skip", States::settled, NO_SUCH, x -> x.growth(3, 1));
        refused("9: growth out of range", States::settled, BAD_VALUE, x -> x.growth(0, 31));
        refused("9: no such skip before growth, above", States::settled, NO_SUCH, x -> x.growth(3, 31));
        refused("9: no such skip before growth, below", States::settled, NO_SUCH, x -> x.growth(-1, -1));
    }

    private static void pass() {
        refused("10: no days", States::settled, BAD_VALUE, x -> x.pass(0));
        refused("10: the day would be above 9999", States::lastDay, TOO_MANY, x -> x.pass(1));
        refused("10: the day would be far above 9999", States::lastDay, TOO_MANY, x -> x.pass(99));
        refused("10: no days on the last day", States::lastDay, BAD_VALUE, x -> x.pass(0));
        refused("10: days out of range before the last day", States::lastDay, BAD_VALUE, x -> x.pass(100));
        refused("10: days that would wrap around", States::lastDay, BAD_VALUE, x -> x.pass(Integer.MAX_VALUE));
    }

    private static void run() {
        refused("11: an empty pad", States::emptyPad, BAD_TEXT, x -> x.run());
        refused("11: an empty pad of a new object", States::fresh, BAD_TEXT, x -> x.run());
        refused("11: good orders before the fault are not done", States::padWithFault, BAD_TEXT, x -> x.run());
    }

    private static void queries() {
        refused("12: no such skip before what", States::settled, NO_SUCH, x -> x.skip(3, 11));
        refused("12: no such skip before what, below", States::settled, NO_SUCH, x -> x.skip(-1, -1));
        refused("12: what out of range", States::settled, BAD_VALUE, x -> x.skip(2, 11));
        refused("13: no such street before what", States::settled, NO_SUCH, x -> x.street(5, 3));
        refused("13: no such street before what, below", States::settled, NO_SUCH, x -> x.street(-1, -1));
        refused("13: what out of range", States::settled, BAD_VALUE, x -> x.street(4, 3));
        refused("14: no such customer before what", States::settled, NO_SUCH, x -> x.customer(6, 4));
        refused("14: no such customer before what, below", States::settled, NO_SUCH, x -> x.customer(-1, -1));
        refused("14: what out of range", States::settled, BAD_VALUE, x -> x.customer(5, 4));
        refused("15: what out of range", States::settled, BAD_VALUE, x -> x.count(19));
    }

    private static void whatIfs() {
        refused("18: no such customer before days", States::settled, NO_SUCH, x -> x.cost(6, 201));
        refused("18: no such customer before days, below", States::settled, NO_SUCH, x -> x.cost(-1, -1));
        refused("18: days out of range, of a customer without skips", States::settled, BAD_VALUE, x -> x.cost(5, 201));
        refused("19: no such skip before days", States::settled, NO_SUCH, x -> x.bestSwap(3, 0, 0));
        refused("19: no such skip before what", States::settled, NO_SUCH, x -> x.bestSwap(3, 1, 2));
        refused("19: no such skip before days and what", States::settled, NO_SUCH, x -> x.bestSwap(-1, 61, -1));
        refused("19: days and what", States::settled, BAD_VALUE, x -> x.bestSwap(0, 61, 2));
        refused("19: days", States::settled, BAD_VALUE, x -> x.bestSwap(0, 0, 1));
        refused("19: what", States::settled, BAD_VALUE, x -> x.bestSwap(0, 60, 2));
    }

    private static void write() {
        refused("21: no character", States::settled, BAD_VALUE, x -> x.write(0L));
        refused("21: a code too low", States::settled, BAD_VALUE, x -> x.write(32L));
        refused("21: a code too high", States::settled, BAD_VALUE, x -> x.write(127L));
        refused("21: one character on a full pad", States::fullPad, TOO_MANY, x -> x.write('o'));
        refused("21: eight characters on a full pad", States::fullPad, TOO_MANY, x -> x.write(Checks.packed("12345678")));
        refused("21: no character before a full pad", States::fullPad, BAD_VALUE, x -> x.write(0L));
        refused("21: a bad code before a full pad", States::fullPad, BAD_VALUE, x -> x.write(32L));
        refused("21: a bit above the 0 before a full pad", States::fullPad, BAD_VALUE, x -> x.write(0x6f006fL));
        refused("21: no character of those that fit is written", ErrorsTest::padOf59, TOO_MANY,
            x -> x.write(Checks.packed("12")));
    }

    private static SkipPermits padOf59() {
        SkipPermits x = States.emptyPad();
        Checks.write(x, "o0;".repeat(19) + ".9");
        return x;
    }

    private static void undo() {
        refused("24: nothing was changed yet", States::fresh, NOT_POSSIBLE, x -> x.undo());
        refused("24: all is undone", ErrorsTest::allUndone, NOT_POSSIBLE, x -> x.undo());
    }

    private static SkipPermits allUndone() {
        SkipPermits x = States.settled();
        for (int i = 0; i < 6; i++) {
            x.undo();
        }
        return x;
    }

    private static void slots() {
        refused("25: no such slot", States::settled, BAD_VALUE, x -> x.save(2));
        refused("26: no such slot", States::settled, BAD_VALUE, x -> x.restore(2));
        refused("26: no such slot before nothing saved", States::fresh, BAD_VALUE, x -> x.restore(-1));
        refused("26: nothing saved in slot 0", States::fresh, NOT_POSSIBLE, x -> x.restore(0));
        refused("26: nothing saved in slot 1", States::fresh, NOT_POSSIBLE, x -> x.restore(1));
        refused("26: something saved in the other slot alone", States::settled, NOT_POSSIBLE, x -> x.restore(1));
    }

    /** NONE is returned only if no error applies. */
    private static void noneIsNoError() {
        refused("12: without a permit", States::settled, NONE, x -> x.skip(0, 7));
        refused("12: no such skip before none", States::fresh, NO_SUCH, x -> x.skip(0, 7));
        refused("16: it never is full", States::tenSkips, NONE, x -> x.untilFull(0));
        refused("16: no such skip before none", States::fresh, NO_SUCH, x -> x.untilFull(0));
        refused("17: on a drive", States::settled, NONE, x -> x.untilFine(2));
        refused("17: no such skip before none", States::fresh, NO_SUCH, x -> x.untilFine(0));
        refused("20: without skips", States::fresh, NONE, x -> x.dearest());
        refused("23: no fault", States::settled, NONE, x -> x.fault());
    }
}
