import java.util.List;

/** The history of six states, the two slots, and what undo() and restore() bring back and leave. */
public final class HistoryTest {
    private static final int BAD_TEXT = -3, NOT_POSSIBLE = -5;
    private static final Checks CHECKS = new Checks();

    /** Each method that is a change, on States.settled(). */
    private static final String[] CHANGE_NAMES = {"set", "places", "put", "swap", "take", "permit", "oil", "growth",
        "pass", "run", "restore"};
    private static final Checks.Call[] CHANGES = {x -> x.set(SkipPermits.DARK, 1), x -> x.places(3, 3),
        x -> x.put(2, 2, 2, 2), x -> x.swap(0), x -> x.take(0), x -> x.permit(0, 5), x -> x.oil(0), x -> x.growth(1, 1),
        x -> x.pass(9), x -> x.run(), x -> x.restore(0)};

    /** The same methods, so that nothing is different then; passing days and trips always make a difference. */
    private static final Checks.Call[] IDLE_CHANGES = {x -> x.set(SkipPermits.DARK, 10), x -> x.places(3, 2),
        x -> x.growth(1, 30), x -> x.oil(2), HistoryTest::runWhatIsPassedOver, HistoryTest::saveAndRestore};

    private static void due(String call, long got, long want) {
        CHECKS.due(call, got, want);
    }

    private static void same(String name, List<Integer> got, List<Integer> want) {
        due(name + ", things told", got.size(), want.size());
        for (int i = 0; i < Math.min(got.size(), want.size()); i++) {
            due(name + ", thing " + i, got.get(i), want.get(i));
        }
    }

    public static void main(String[] args) {
        eachChangeIsUndone();
        eachChangeIsRecordedOnce();
        changesThatMakeNoDifferenceAreRecorded();
        eachChangeDropsTheOldestOfSix();
        historyOfFewerThanSix();
        historyOfSixAndOneMore();
        historyOfManyMore();
        errorKeepsAllSix();
        callsThatAreNoChangeAreNotRecorded();
        undoIsNotUndone();
        changeBehindUndo();
        undoLeavesThePad();
        undoOfRunLeavesThePadEmpty();
        undoLeavesTheSlots();
        undoBringsTripsBack();
        slotsHoldNothingAtFirst();
        slotOfATownWithoutSkips();
        slotIsOverwritten();
        slotKeepsWhatItHolds();
        slotsAreForThemselves();
        slotHoldsEverythingButThePad();
        saveOfWhatWasRestored();
        restoreLeavesThePadAndTheHistory();
        restoreToFewerSkipsAndBack();
        objectsAreForThemselves();
        CHECKS.end();
    }

    private static int runWhatIsPassedOver(SkipPermits x) {
        x.wipe();
        Checks.write(x, "w9");
        return x.run();
    }

    private static int saveAndRestore(SkipPermits x) {
        x.save(1);
        return x.restore(1);
    }

    private static void eachChangeIsUndone() {
        for (int i = 0; i < CHANGES.length; i++) {
            SkipPermits x = States.settled();
            CHANGES[i].on(x);
            due("24: undo() of " + CHANGE_NAMES[i] + "()", x.undo(), 5);
            same("24: undone " + CHANGE_NAMES[i] + "()", Probe.town(x), Probe.town(States.settled()));
        }
    }

    private static void eachChangeIsRecordedOnce() {
        for (int i = 0; i < CHANGES.length; i++) {
            SkipPermits x = States.settled();
            for (int undone = 0; undone < 3; undone++) {
                x.undo();
            }
            Checks.write(x, ";o0");
            boolean done = CHANGES[i].on(x) >= 0;
            due("24: there is no error, " + CHANGE_NAMES[i] + "()", done ? 1 : 0, 1);
            due("24: one is recorded, " + CHANGE_NAMES[i] + "()", x.count(18), 4);
        }
    }

    private static void changesThatMakeNoDifferenceAreRecorded() {
        for (int i = 0; i < IDLE_CHANGES.length; i++) {
            SkipPermits x = States.settled();
            x.undo();
            List<Integer> before = Probe.town(x);
            IDLE_CHANGES[i].on(x);
            same("24: nothing is different, " + i, Probe.town(x), before);
            due("24: it is recorded, " + i, x.count(18), 6);
        }
    }

    /** Before the change, the put of skip 1 is the oldest of the six that can be undone. */
    private static void eachChangeDropsTheOldestOfSix() {
        for (int i = 0; i < CHANGES.length; i++) {
            SkipPermits x = States.settled();
            CHANGES[i].on(x);
            due("24: six at most, " + CHANGE_NAMES[i] + "()", x.count(18), 6);
            for (int left = 5; left >= 0; left--) {
                due("24: undo(), " + CHANGE_NAMES[i] + "()", x.undo(), left);
            }
            due("24: the put of skip 1 is dropped, " + CHANGE_NAMES[i] + "()", x.count(9), 2);
            due("24: nothing is left, " + CHANGE_NAMES[i] + "()", x.undo(), NOT_POSSIBLE);
        }
    }

    private static SkipPermits hires(int changes) {
        SkipPermits x = new SkipPermits();
        for (int value = 1; value <= changes; value++) {
            x.set(SkipPermits.HIRE, value);
        }
        return x;
    }

    private static void historyOfFewerThanSix() {
        SkipPermits x = hires(5);
        due("24: five", x.count(18), 5);
        for (int left = 4; left >= 0; left--) {
            due("24: undo()", x.undo(), left);
            due("24: HIRE", x.count(0), left == 0 ? 3 : left);
        }
        due("24: as a new object", x.undo(), NOT_POSSIBLE);
    }

    private static void historyOfSixAndOneMore() {
        SkipPermits x = hires(6);
        due("24: six", x.count(18), 6);
        x.set(SkipPermits.HIRE, 7);
        due("24: six still", x.count(18), 6);
        for (int left = 5; left >= 0; left--) {
            due("24: undo()", x.undo(), left);
            due("24: HIRE", x.count(0), left + 1);
        }
        due("24: the state before all of them is dropped", x.undo(), NOT_POSSIBLE);
        due("24: HIRE", x.count(0), 1);
    }

    private static void historyOfManyMore() {
        for (int changes = 7; changes <= 20; changes++) {
            SkipPermits x = hires(changes);
            for (int left = 5; left >= 0; left--) {
                due("24: undo() of " + changes, x.undo(), left);
                due("24: HIRE, of " + changes, x.count(0), changes - 6 + left);
            }
            due("24: no more than six of " + changes, x.undo(), NOT_POSSIBLE);
        }
    }

    private static void errorKeepsAllSix() {
        SkipPermits x = hires(6);
        x.set(SkipPermits.HIRE, 21);
        x.places(5, 1);
        x.put(0, 4, 0, 0);
        x.swap(0);
        x.take(0);
        x.permit(0, 1);
        x.oil(0);
        x.growth(0, 1);
        x.pass(100);
        x.run();
        x.restore(1);
        for (int left = 5; left >= 0; left--) {
            due("24: undo() behind errors", x.undo(), left);
            due("24: HIRE behind errors", x.count(0), left == 0 ? 3 : left);
        }
    }

    private static void callsThatAreNoChangeAreNotRecorded() {
        SkipPermits x = hires(2);
        x.save(0);
        x.write('o');
        x.wipe();
        x.fault();
        x.count(0);
        x.cost(0, 9);
        x.dearest();
        x.street(0, 0);
        x.customer(0, 0);
        due("24: two still", x.count(18), 2);
        due("24: undo()", x.undo(), 1);
        due("24: the latest change was undone", x.count(0), 1);
    }

    private static void undoIsNotUndone() {
        SkipPermits x = hires(3);
        x.undo();
        due("24: undo() is no change", x.count(18), 2);
        due("24: the next one", x.undo(), 1);
        due("24: goes on back", x.count(0), 1);
    }

    private static void changeBehindUndo() {
        SkipPermits x = hires(8);
        x.undo();
        x.undo();
        x.set(SkipPermits.HIRE, 20);
        due("24: five", x.count(18), 5);
        due("24: undo()", x.undo(), 4);
        due("24: what was undone before is gone", x.count(0), 6);
        due("24: undo()", x.undo(), 3);
        due("24: HIRE", x.count(0), 5);
    }

    private static void undoLeavesThePad() {
        SkipPermits x = hires(1);
        Checks.write(x, ".1;.2");
        x.undo();
        due("24: its length", x.count(17), 5);
        due("24: its orders", x.run(), 2);
        due("24: are done", x.count(8), 3);
    }

    private static void undoOfRunLeavesThePadEmpty() {
        SkipPermits x = States.settled();
        due("11: run()", x.run(), 2);
        due("11: the pad is empty", x.count(17), 0);
        x.undo();
        due("24: the pad stays empty", x.count(17), 0);
        due("24: it cannot run again", x.run(), BAD_TEXT);
        Checks.write(x, "o0");
        due("22: it takes a new text", x.count(17), 2);
        due("11: which runs", x.run(), 1);
    }

    private static void undoLeavesTheSlots() {
        SkipPermits x = hires(2);
        x.save(1);
        x.undo();
        x.undo();
        due("26: what was saved before undo()", x.restore(1), 0);
        due("26: HIRE", x.count(0), 2);
        due("24: undo() of restore()", x.undo(), 0);
        due("24: HIRE", x.count(0), 3);
        due("26: once more", x.restore(1), 0);
        due("26: HIRE once more", x.count(0), 2);
    }

    private static void undoBringsTripsBack() {
        SkipPermits x = States.noTrip();
        x.undo();
        due("24: a trip is left", x.count(10), 1);
        due("24: it can be made", x.put(3, 3, 3, 3), 1);
        x.pass(1);
        due("10: a new day", x.count(10), 2);
        x.undo();
        due("24: the trips of the day before", x.count(10), 0);
    }

    private static void slotsHoldNothingAtFirst() {
        SkipPermits x = States.fresh();
        due("26: slot 0", x.restore(0), NOT_POSSIBLE);
        due("26: slot 1", x.restore(1), NOT_POSSIBLE);
        x.save(1);
        due("26: slot 0 still", x.restore(0), NOT_POSSIBLE);
        due("26: slot 1 then", x.restore(1), 0);
        due("24: one change", x.count(18), 1);
    }

    private static void slotOfATownWithoutSkips() {
        SkipPermits x = States.fresh();
        due("25: no skips", x.save(0), 0);
        x.put(0, 0, 0, 0);
        x.pass(1);
        due("26: no skips", x.restore(0), 0);
        due("26: day", x.count(8), 0);
        due("26: skip(0, 0)", x.skip(0, 0), -1);
        due("26: charged", x.count(11), 0);
    }

    private static void slotIsOverwritten() {
        SkipPermits x = States.tenSkips();
        due("25: ten skips", x.save(0), 10);
        x.take(0);
        due("25: nine skips", x.save(0), 9);
        x.take(0);
        due("26: nine skips", x.restore(0), 9);
        due("26: none of ten", x.skip(9, 0), -1);
    }

    private static void slotKeepsWhatItHolds() {
        SkipPermits x = States.settled();
        x.save(1);
        List<Integer> saved = Probe.town(x);
        for (Checks.Call change : CHANGES) {
            change.on(x);
        }
        due("26: restore(1)", x.restore(1), 3);
        same("26: as it was saved", Probe.town(x), saved);
    }

    private static void slotsAreForThemselves() {
        SkipPermits x = hires(1);
        x.save(0);
        x.set(SkipPermits.HIRE, 2);
        x.save(1);
        x.set(SkipPermits.HIRE, 9);
        x.restore(0);
        due("26: HIRE of slot 0", x.count(0), 1);
        x.restore(1);
        due("26: HIRE of slot 1", x.count(0), 2);
        x.restore(0);
        due("26: HIRE of slot 0 again", x.count(0), 1);
    }

    private static void slotHoldsEverythingButThePad() {
        SkipPermits x = States.settled();
        List<Integer> saved = Probe.town(x);
        x.save(1);
        x.take(2);
        x.take(0);
        x.put(5, 2, 3, 29);
        x.pass(99);
        x.places(0, 4);
        x.set(SkipPermits.TRIPS, 0);
        x.restore(1);
        same("26: all of it", Probe.town(x), saved);
    }

    private static void saveOfWhatWasRestored() {
        SkipPermits x = States.settled();
        x.restore(0);
        due("25: two skips", x.save(1), 2);
        x.take(1);
        due("26: two skips of slot 1", x.restore(1), 2);
        x.take(1);
        due("26: two skips of slot 0", x.restore(0), 2);
    }

    private static void restoreLeavesThePadAndTheHistory() {
        SkipPermits x = States.settled();
        x.restore(0);
        due("26: the pad", x.count(17), 5);
        due("26: is without a fault", x.fault(), -6);
        due("26: one state more is recorded", x.undo(), 5);
        same("24: undone", Probe.town(x), Probe.town(States.settled()));
        due("24: the changes before it", x.undo(), 4);
        due("24: the load that was tipped", x.skip(1, 3), 60);
    }

    private static void restoreToFewerSkipsAndBack() {
        SkipPermits x = States.tenSkips();
        x.save(1);
        for (int i = 0; i < 8; i++) {
            x.take(0);
        }
        x.save(0);
        due("26: ten", x.restore(1), 10);
        due("26: two", x.restore(0), 2);
        due("26: the last of two", x.skip(1, 5), 9);
        due("26: ten again", x.restore(1), 10);
        for (int i = 0; i < 10; i++) {
            due("26: skip(" + i + ", 5)", x.skip(i, 5), i);
        }
    }

    private static void objectsAreForThemselves() {
        SkipPermits x = States.settled(), y = States.fresh();
        y.set(SkipPermits.HIRE, 20);
        y.put(5, 3, 4, 30);
        y.save(1);
        Checks.write(y, "w0");
        y.pass(9);
        same("1: another object changes nothing here", Probe.all(x), Probe.all(States.settled()));
    }
}
