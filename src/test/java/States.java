/** Objects in the states on whose edges calls are tried; each method makes a new one, always the same. */
final class States {
    private States() {
    }

    static SkipPermits fresh() {
        return new SkipPermits();
    }

    /** Nothing but nine trips a day. */
    static SkipPermits busy() {
        SkipPermits x = new SkipPermits();
        x.set(SkipPermits.TRIPS, 9);
        return x;
    }

    /**
     * Day 2 with three skips, the last one on a drive, and four trips left; six changes can be undone, slot 0 holds
     * two skips and slot 1 nothing, and the pad has no fault. Customers 0, 1, 2 were charged 61, 140, 37.
     */
    static SkipPermits settled() {
        SkipPermits x = new SkipPermits();
        x.set(SkipPermits.TRIPS, 5);
        x.put(0, 0, 0, 7);
        x.put(1, 3, 4, 30);
        x.save(0);
        x.put(2, 1, 5, 3);
        x.permit(1, 3);
        x.oil(0);
        x.pass(2);
        x.swap(1);
        Checks.write(x, "o0;.1");
        return x;
    }

    /** Both places of street 0 are taken, and seven trips are left. */
    static SkipPermits fullStreet() {
        SkipPermits x = busy();
        x.put(0, 0, 0, 1);
        x.put(1, 1, 0, 2);
        return x;
    }

    /** A skip in street 1 and one on a drive; both trips of the day are made. */
    static SkipPermits noTrip() {
        SkipPermits x = new SkipPermits();
        x.put(0, 0, 1, 5);
        x.put(1, 1, 5, 5);
        return x;
    }

    /** Ten skips, the first two of them fill street 0, the others stand on drives; eight trips are left. */
    static SkipPermits tenSkips() {
        SkipPermits x = busy();
        for (int i = 0; i < 9; i++) {
            x.put(i % 6, i % 4, i < 2 ? 0 : 5, i);
        }
        x.pass(1);
        x.put(3, 3, 5, 9);
        return x;
    }

    static SkipPermits tenSkipsNoTrip() {
        SkipPermits x = tenSkips();
        x.set(SkipPermits.TRIPS, 1);
        return x;
    }

    /** The day 9999, a skip in street 0 that was put on the day 0, and a text that would let a day pass. */
    static SkipPermits lastDay() {
        SkipPermits x = new SkipPermits();
        x.put(0, 0, 0, 1);
        for (int i = 0; i < 101; i++) {
            x.pass(99);
        }
        Checks.write(x, ".1");
        return x;
    }

    /** A pad of 60 characters without a fault: nineteen lamps are filled, then 99 days pass. */
    static SkipPermits fullPad() {
        SkipPermits x = settled();
        x.wipe();
        Checks.write(x, "o0;".repeat(19) + ".99");
        return x;
    }

    static SkipPermits padWithFault() {
        SkipPermits x = settled();
        x.write('x');
        return x;
    }

    static SkipPermits emptyPad() {
        SkipPermits x = settled();
        x.wipe();
        return x;
    }

    /** As settled, with something in slot 1, too. */
    static SkipPermits bothSaved() {
        SkipPermits x = settled();
        x.save(1);
        return x;
    }
}
