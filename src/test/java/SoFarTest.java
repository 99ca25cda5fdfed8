/** What was charged, tipped, fined and fell so far, and what would be: sums that go on, stay, and begin again. */
public final class SoFarTest {
    private static final int NO_SUCH = -1, NONE = -6;
    private static final Checks CHECKS = new Checks();

    private static void due(String call, long got, long want) {
        CHECKS.due(call, got, want);
    }

    public static void main(String[] args) {
        accountsOfACustomerStay();
        accountOfASkipGoesWithIt();
        accountOfASkipStaysWhenItIsSwapped();
        sumsAreOverAllCustomers();
        newSettingsLeaveWhatWasCharged();
        daysSinceItWasPut();
        dearestOfSeveralTheLowest();
        dearestIsForTheSkipAlone();
        dearestWithoutCharges();
        untilFullAtEachLoad();
        untilFullOfTheSlowest();
        untilFineByPermitAndLamp();
        untilFineWithoutCoins();
        costIsWhatPassCharges();
        costWithoutSkips();
        costForgetsWhatWasCharged();
        bestSwapOfOneDay();
        bestSwapOfSeveralTheLatest();
        bestSwapOfAnEmptyAndAFullSkip();
        bestSwapIsWhatASwapThenDoes();
        bestSwapWithoutTrips();
        CHECKS.end();
    }

    private static void accountsOfACustomerStay() {
        SkipPermits x = States.settled();
        x.growth(0, 30);
        x.pass(1);
        int charged = x.customer(0, 0);
        x.take(0);
        due("14: charged, with the trip and the load", x.customer(0, 0), charged + 25 + 20);
        due("14: no skips", x.customer(0, 1), 0);
        due("14: tipped", x.customer(0, 2), 20);
        due("14: fines", x.customer(0, 3), 45);
        due("15: beside", x.count(13), 24);
        x.pass(1);
        due("14: no more is charged", x.customer(0, 0), charged + 45);
    }

    private static void accountOfASkipGoesWithIt() {
        SkipPermits x = States.settled();
        due("12: charged for the last", x.skip(2, 10), 37);
        x.take(0);
        due("12: it goes with its skip", x.skip(1, 10), 37);
        x.put(2, 0, 0, 30);
        due("12: a new one begins", x.skip(2, 10), 25);
        due("12: a new one has nothing beside", x.skip(2, 8), 0);
        due("12: a new one is new", x.skip(2, 9), 0);
    }

    private static void accountOfASkipStaysWhenItIsSwapped() {
        SkipPermits x = States.busy();
        x.put(0, 0, 0, 30);
        x.pass(2);
        x.permit(0, 5);
        x.swap(0);
        int[] stays = {0, 0, 0, 0, 20, 30, 5, 6, 40, 2, 25 + 2 * 18 + 10 + 25 + 20};
        for (int what = 0; what < stays.length; what++) {
            due("5: skip(0, " + what + ")", x.skip(0, what), stays[what]);
        }
        x.pass(1);
        due("12: beside, added up", x.skip(0, 8), 50);
    }

    private static void sumsAreOverAllCustomers() {
        SkipPermits x = States.settled();
        x.pass(9);
        x.swap(0);
        x.take(2);
        int charged = 0, tipped = 0, fines = 0, skips = 0;
        for (int customer = 0; customer < 6; customer++) {
            charged += x.customer(customer, 0);
            skips += x.customer(customer, 1);
            tipped += x.customer(customer, 2);
            fines += x.customer(customer, 3);
        }
        due("15: charged", x.count(11), charged);
        due("15: skips", x.count(9), skips);
        due("15: tipped", x.count(12), tipped);
        due("15: tipped, in numbers", x.count(12), 60 + 20 + 33);
        due("15: fines", x.count(14), fines);
        due("15: fines, in numbers", x.count(14), 30 + 9 * 30 + 2 * 4 * 10);
        due("15: beside, in numbers", x.count(13), 14 + 63 - 20 + 9 * 30 - 80);
    }

    private static void newSettingsLeaveWhatWasCharged() {
        SkipPermits x = States.settled();
        int charged = x.count(11);
        for (int setting = 0; setting < 6; setting++) {
            x.set(setting, 9);
        }
        due("2: charged", x.count(11), charged);
        due("2: fines", x.count(14), 30);
        due("10: what comes is charged by them", x.pass(1), 9 + 36 + 18 + 9 + 9);
    }

    private static void daysSinceItWasPut() {
        SkipPermits x = States.busy();
        x.pass(3);
        x.put(0, 0, 5, 0);
        due("12: on the same day", x.skip(0, 9), 0);
        x.pass(1);
        x.put(0, 0, 5, 0);
        x.pass(98);
        due("12: behind 99 days", x.skip(0, 9), 99);
        due("12: behind 98 days", x.skip(1, 9), 98);
    }

    private static void dearestOfSeveralTheLowest() {
        SkipPermits x = States.busy();
        for (int i = 0; i < 3; i++) {
            x.put(i, 0, 5, 0);
        }
        due("20: all the same", x.dearest(), 0);
        x.swap(2);
        due("20: the last one", x.dearest(), 2);
        x.swap(1);
        due("20: of the last two", x.dearest(), 1);
        x.swap(0);
        due("20: all the same again", x.dearest(), 0);
        CHECKS.unchanged("20: dearest() changes nothing", States::settled, 1, y -> y.dearest());
    }

    private static void dearestIsForTheSkipAlone() {
        SkipPermits x = States.busy();
        x.put(0, 0, 5, 0);
        x.put(0, 0, 5, 0);
        x.put(1, 0, 5, 0);
        x.swap(2);
        due("20: its customer has fewer coins in all", x.dearest(), 2);
        x.take(2);
        due("20: one that is taken is no more", x.dearest(), 0);
    }

    private static void dearestWithoutCharges() {
        SkipPermits x = States.busy();
        due("20: without skips", x.dearest(), NONE);
        x.set(SkipPermits.TRIP, 0);
        x.put(0, 0, 5, 0);
        x.put(0, 0, 5, 0);
        due("20: nothing is charged yet", x.dearest(), 0);
    }

    private static void untilFullAtEachLoad() {
        for (int growth = 1; growth <= 30; growth++) {
            SkipPermits x = States.busy();
            x.put(0, 3, 5, growth);
            int days = (79 + growth) / growth;
            for (int left = days; left >= 0; left--) {
                due("16: growth " + growth + ", " + left + " days before", x.untilFull(0), left);
                x.pass(1);
            }
            due("16: it stays full, growth " + growth, x.untilFull(0), 0);
        }
    }

    private static void untilFullOfTheSlowest() {
        SkipPermits x = States.busy();
        x.put(0, 3, 5, 1);
        due("16: 80 days", x.untilFull(0), 80);
        x.growth(0, 0);
        due("16: never", x.untilFull(0), NONE);
        due("16: there is no other", x.untilFull(1), NO_SUCH);
    }

    private static void untilFineByPermitAndLamp() {
        for (int permit = 0; permit <= 4; permit++) {
            for (int nights = 1; nights <= 4; nights++) {
                SkipPermits x = States.busy();
                x.set(SkipPermits.OIL, nights);
                x.put(0, 0, 0, 0);
                if (permit > 0) {
                    x.permit(0, permit);
                }
                int days = x.untilFine(0);
                due("17: permit " + permit + ", nights " + nights, days, 1 + Math.min(Math.max(0, permit - 1), nights));
                for (int day = 1; day < days; day++) {
                    due("17: no fine on day " + day, x.pass(1), 3);
                }
                due("17: 1 or more, the day before", x.untilFine(0), 1);
                due("17: a fine", x.pass(1) > 3 ? 1 : 0, 1);
                due("17: 1 or more, when it was charged", x.untilFine(0), 1);
            }
        }
    }

    private static void untilFineWithoutCoins() {
        SkipPermits x = States.settled();
        int before = x.untilFine(1);
        x.set(SkipPermits.FINE, 0);
        x.set(SkipPermits.DARK, 0);
        due("17: when it would be", x.untilFine(1), before);
        x.permit(1, 99);
        due("17: when the lamp would be dark", x.untilFine(1), 6);
    }

    private static void costIsWhatPassCharges() {
        for (int days = 1; days <= 99; days += 7) {
            SkipPermits x = States.settled();
            int[] before = new int[6], costs = new int[6];
            for (int customer = 0; customer < 6; customer++) {
                before[customer] = x.customer(customer, 0);
                costs[customer] = x.cost(customer, days);
            }
            x.pass(days);
            for (int customer = 0; customer < 6; customer++) {
                due("18: cost(" + customer + ", " + days + ")", costs[customer], x.customer(customer, 0) - before[customer]);
            }
        }
    }

    private static void costWithoutSkips() {
        SkipPermits x = States.fresh();
        for (int customer = 0; customer < 6; customer++) {
            due("18: cost(" + customer + ", 200)", x.cost(customer, 200), 0);
        }
    }

    private static void costForgetsWhatWasCharged() {
        SkipPermits x = States.settled();
        due("18: 0 days", x.cost(0, 0), 0);
        due("18: 1 day", x.cost(0, 1), 18);
        x.take(0);
        due("18: the skip is taken", x.cost(0, 1), 0);
    }

    private static void bestSwapOfOneDay() {
        SkipPermits x = States.busy();
        x.put(0, 0, 5, 20);
        due("19: nothing falls, the latest", x.bestSwap(0, 1, 0), 1);
        due("19: nothing falls", x.bestSwap(0, 1, 1), 0);
        x.growth(0, 30);
        due("19: as much either day, the latest", x.bestSwap(0, 1, 0), 1);
        due("19: as much either day", x.bestSwap(0, 1, 1), 10);
        x.pass(1);
        due("19: now, when it is full", x.bestSwap(0, 1, 0), 0);
        due("19: what fell before does not count", x.bestSwap(0, 1, 1), 10);
    }

    private static void bestSwapOfSeveralTheLatest() {
        SkipPermits x = States.busy();
        x.put(0, 0, 5, 10);
        due("19: two days before and two behind", x.bestSwap(0, 4, 0), 2);
        due("19: nothing falls", x.bestSwap(0, 4, 1), 0);
        due("19: three days, of two the latest", x.bestSwap(0, 3, 0), 2);
        due("19: five days, of several the latest", x.bestSwap(0, 5, 0), 3);
        due("19: five days, units", x.bestSwap(0, 5, 1), 10);
        due("19: sixty days", x.bestSwap(0, 60, 0), 58);
        due("19: sixty days, units", x.bestSwap(0, 60, 1), 560);
    }

    private static void bestSwapOfAnEmptyAndAFullSkip() {
        SkipPermits x = States.busy();
        x.put(0, 0, 5, 0);
        due("19: empty, it never grows", x.bestSwap(0, 60, 0), 60);
        due("19: empty, units", x.bestSwap(0, 60, 1), 0);
        x.growth(0, 20);
        x.pass(1);
        due("19: full, 1 day", x.bestSwap(0, 1, 0), 0);
        due("19: full, 2 days", x.bestSwap(0, 2, 0), 1);
        due("19: full, 2 days, units", x.bestSwap(0, 2, 1), 20);
        x.growth(0, 0);
        due("19: full, it grows no more", x.bestSwap(0, 2, 0), 2);
        due("19: full, it grows no more, units", x.bestSwap(0, 2, 1), 0);
    }

    private static void bestSwapIsWhatASwapThenDoes() {
        int fewest = Integer.MAX_VALUE, best = -1;
        for (int behind = 0; behind <= 9; behind++) {
            SkipPermits x = States.settled();
            int before = x.skip(0, 8);
            if (behind > 0) {
                x.pass(behind);
            }
            x.swap(0);
            if (behind < 9) {
                x.pass(9 - behind);
            }
            int fallen = x.skip(0, 8) - before;
            if (fallen <= fewest) {
                fewest = fallen;
                best = behind;
            }
        }
        due("19: behind how many days", States.settled().bestSwap(0, 9, 0), best);
        due("19: units", States.settled().bestSwap(0, 9, 1), fewest);
    }

    private static void bestSwapWithoutTrips() {
        SkipPermits x = States.noTrip();
        due("19: trips do not matter", x.bestSwap(0, 8, 0), 4);
        x.set(SkipPermits.TRIPS, 0);
        due("19: nor when there never are any", x.bestSwap(0, 8, 0), 4);
    }
}
