import java.util.ArrayList;
import java.util.List;

/** Asks an object for all that it tells, so that two objects can be compared. */
final class Probe {
    private final SkipPermits permits;
    private final List<Integer> told = new ArrayList<>();

    private Probe(SkipPermits permits) {
        this.permits = permits;
    }

    /** All but the pad and the history; nothing changes by it. */
    static List<Integer> town(SkipPermits permits) {
        Probe probe = new Probe(permits);
        probe.readTown();
        return probe.told;
    }

    /** Also what the history, the slots and the pad hold: the object is used up by it, but stays below 512 calls. */
    static List<Integer> all(SkipPermits permits) {
        Probe probe = new Probe(permits);
        probe.tell(permits.count(17));
        probe.tell(permits.count(18));
        probe.tell(permits.fault());
        probe.readTown();
        for (int undone = 0; undone <= 6; undone++) {
            probe.tell(permits.undo());
            probe.readBriefly();
        }
        for (int slot = 0; slot <= 1; slot++) {
            probe.tell(permits.restore(slot));
            probe.readBriefly();
        }
        probe.tell(permits.run());
        probe.readBriefly();
        return probe.told;
    }

    private void tell(int answer) {
        told.add(answer);
    }

    private void readTown() {
        for (int what = 0; what < 17; what++) tell(permits.count(what));
        for (int street = 0; street < 5; street++) {
            for (int what = 0; what < 3; what++) tell(permits.street(street, what));
        }
        for (int customer = 0; customer < 6; customer++) {
            for (int what = 0; what < 4; what++) tell(permits.customer(customer, what));
        }
        for (int skip = 0; skip < 10; skip++) {
            for (int what = 0; what < 11; what++) tell(permits.skip(skip, what));
        }
    }

    private void readBriefly() {
        for (int what = 0; what < 17; what++) tell(permits.count(what));
        tell(permits.skip(0, 6));
        tell(permits.skip(0, 7));
        tell(permits.skip(0, 10));
    }
}
