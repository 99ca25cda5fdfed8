/** The edges of streets, trips, skips, loads, lamps, permits and days, each by a test of its own. */
public final class LimitsTest {
    private static final int TOO_MANY = -4, NOT_POSSIBLE = -5, NONE = -6;
    private static final Checks CHECKS = new Checks();

    private static void due(String call, long got, long want) {
        CHECKS.due(call, got, want);
    }

    public static void main(String[] args) {
        streetOfEachSizeIsFull();
        streetBesideAFullOneIsFree();
        fullStreetLetsSwapAndPermit();
        takingFreesAPlace();
        placesBelowTheSkipsThatStand();
        placesAboveTheSkipsThatStand();
        driveIsNeverFull();
        tenthSkipAndEleventh();
        tenSkipsAndOneIsTaken();
        tripsAreForEachKind();
        tripsComeAgainWithTheDay();
        tripsAndANewNumberOfThem();
        noTripIsNeededForTheRest();
        tripThatIsRefusedCostsNothing();
        emptySkip();
        skipThatIsJustFull();
        skipThatIsOneUnitBelowFull();
        skipThatIsOneUnitTooFull();
        skipThatWasFullBefore();
        fullSkipsAreCounted();
        lampOfOneNight();
        lampOfThirtyNights();
        lampOnADrive();
        lampIsFilledBelowWhatItHad();
        permitOfOneDay();
        permitOnItsLastDay();
        permitOnTheDayAfterItsLast();
        permitOfNinetyNineDays();
        permitThatIsOverStillTellsItsDay();
        permitIsForTheDayOfNow();
        dayAfterDayIsAsManyAtOnce();
        upToTheLastDay();
        takenSkipLeavesTheOthersInOrder();
        largestSums();
        CHECKS.end();
    }

    private static void streetOfEachSizeIsFull() {
        for (int places = 1; places <= 4; places++) {
            SkipPermits x = States.busy();
            x.places(3, places);
            for (int i = 0; i < places; i++) {
                due("4: " + places + " places, put " + i, x.put(0, 0, 3, 0), i);
            }
            due("4: " + places + " places are taken", x.put(0, 0, 3, 0), NOT_POSSIBLE);
            due("13: skips that stand there", x.street(3, 1), places);
        }
    }

    private static void streetBesideAFullOneIsFree() {
        SkipPermits x = States.fullStreet();
        due("4: the street beside", x.put(0, 0, 1, 0), 2);
        due("4: the last street", x.put(0, 0, 4, 0), 3);
        due("4: the full one still", x.put(0, 0, 0, 0), NOT_POSSIBLE);
    }

    private static void fullStreetLetsSwapAndPermit() {
        SkipPermits x = States.fullStreet();
        x.pass(1);
        due("5: swap in a full street", x.swap(1), 2);
        due("7: permit in a full street", x.permit(0, 1), 1);
        due("13: it is still full", x.street(0, 1), 2);
    }

    private static void takingFreesAPlace() {
        SkipPermits x = States.fullStreet();
        x.take(0);
        due("6: one place is free", x.put(2, 0, 0, 0), 1);
        due("6: and no second one", x.put(2, 0, 0, 0), NOT_POSSIBLE);
    }

    private static void placesBelowTheSkipsThatStand() {
        SkipPermits x = States.fullStreet();
        due("3: fewer places than skips", x.places(0, 1), 2);
        due("3: they stay", x.street(0, 1), 2);
        due("3: none is free", x.put(0, 0, 0, 0), NOT_POSSIBLE);
        x.take(0);
        due("3: none is free when one is taken", x.put(0, 0, 0, 0), NOT_POSSIBLE);
        x.take(0);
        due("3: one is free when both are taken", x.put(0, 0, 0, 0), 0);
    }

    private static void placesAboveTheSkipsThatStand() {
        SkipPermits x = States.fullStreet();
        due("3: one place more", x.places(0, 3), 2);
        due("3: it is free", x.put(0, 0, 0, 0), 2);
        due("3: no other is", x.put(0, 0, 0, 0), NOT_POSSIBLE);
        due("3: the same again", x.places(0, 3), 3);
    }

    private static void driveIsNeverFull() {
        SkipPermits x = States.busy();
        for (int i = 0; i < 9; i++) {
            due("4: drive, put " + i, x.put(0, 0, 5, 0), i);
        }
        x.pass(1);
        due("4: drive, put 9", x.put(0, 0, 5, 0), 9);
        due("13: no street has them", x.street(4, 1), 0);
    }

    private static void tenthSkipAndEleventh() {
        SkipPermits x = States.tenSkips();
        due("4: ten stand", x.count(9), 10);
        due("4: the eleventh", x.put(0, 0, 5, 0), TOO_MANY);
        due("4: ten stand still", x.count(9), 10);
        x.undo();
        due("4: without the tenth", x.count(9), 9);
        due("4: another tenth", x.put(5, 0, 5, 0), 9);
        due("4: another eleventh", x.put(5, 0, 5, 0), TOO_MANY);
    }

    private static void tenSkipsAndOneIsTaken() {
        SkipPermits x = States.tenSkips();
        due("6: the first of ten", x.take(0), 0);
        due("6: the last one moved up", x.skip(8, 5), 9);
        due("6: there is no tenth", x.skip(9, 5), -1);
        due("6: a place in its street", x.put(4, 2, 0, 30), 9);
        due("6: the new one is the last", x.skip(9, 5), 30);
        due("6: ten again", x.put(4, 2, 5, 30), TOO_MANY);
    }

    private static void tripsAreForEachKind() {
        SkipPermits x = new SkipPermits();
        x.set(SkipPermits.TRIPS, 3);
        x.put(0, 0, 5, 0);
        due("15: left behind put()", x.count(10), 2);
        x.swap(0);
        due("15: left behind swap()", x.count(10), 1);
        x.take(0);
        due("15: left behind take()", x.count(10), 0);
        due("14: TRIP for each", x.customer(0, 0), 75);
        due("4: no trip left", x.put(0, 0, 5, 0), NOT_POSSIBLE);
    }

    private static void tripsComeAgainWithTheDay() {
        SkipPermits x = States.noTrip();
        due("15: none left", x.count(10), 0);
        x.pass(1);
        due("10: those of the day before are forgotten", x.count(10), 2);
        x.swap(0);
        x.pass(99);
        due("10: no more than TRIPS are left behind many days", x.count(10), 2);
        x.swap(0);
        x.swap(0);
        due("10: and not one more", x.swap(0), NOT_POSSIBLE);
    }

    private static void tripsAndANewNumberOfThem() {
        SkipPermits x = States.noTrip();
        x.set(SkipPermits.TRIPS, 3);
        due("15: one more", x.count(10), 1);
        due("5: it can be made", x.swap(0), 0);
        due("5: no other", x.swap(0), NOT_POSSIBLE);
        x.set(SkipPermits.TRIPS, 1);
        due("15: more are made than TRIPS, 0 at least", x.count(10), 0);
        due("6: none can be made", x.take(0), NOT_POSSIBLE);
        x.set(SkipPermits.TRIPS, 4);
        due("15: those that are made still count", x.count(10), 1);
        x.set(SkipPermits.TRIPS, 0);
        x.pass(1);
        due("15: TRIPS 0 on a new day", x.count(10), 0);
        due("4: TRIPS 0", x.put(0, 0, 5, 0), NOT_POSSIBLE);
    }

    private static void noTripIsNeededForTheRest() {
        SkipPermits x = States.noTrip();
        due("7: permit()", x.permit(0, 1), 0);
        due("8: oil()", x.oil(0), 7);
        due("9: growth()", x.growth(0, 6), 5);
        due("3: places()", x.places(0, 1), 2);
        x.save(0);
        due("26: restore()", x.restore(0), 2);
        due("15: none was made", x.count(10), 0);
        x.set(SkipPermits.TRIPS, 3);
        due("15: none was made, with one more", x.count(10), 1);
    }

    private static void tripThatIsRefusedCostsNothing() {
        SkipPermits x = States.fullStreet();
        int charged = x.count(11);
        x.put(0, 0, 0, 0);
        x.swap(2);
        x.take(-1);
        due("4: trips left", x.count(10), 7);
        due("4: charged", x.count(11), charged);
    }

    private static void emptySkip() {
        SkipPermits x = States.fullStreet();
        int charged = x.customer(0, 0);
        due("5: an empty one is swapped", x.swap(0), 0);
        due("5: TRIP alone is charged", x.customer(0, 0), charged + 25);
        due("6: an empty one is taken", x.take(0), 0);
        due("6: TRIP alone is charged again", x.customer(0, 0), charged + 50);
        due("14: nothing is tipped", x.customer(0, 2), 0);
        due("15: nothing is tipped", x.count(12), 0);
        due("15: an empty one is not full", x.count(16), 0);
    }

    /** A skip on a drive that was put some days ago. */
    private static SkipPermits grown(int size, int growth, int days) {
        SkipPermits x = States.busy();
        x.put(0, size, 5, growth);
        x.pass(days);
        return x;
    }

    private static void skipThatIsJustFull() {
        SkipPermits x = grown(0, 20, 1);
        due("10: load", x.skip(0, 3), 20);
        due("10: nothing beside", x.skip(0, 8), 0);
        due("15: it is full", x.count(16), 1);
        due("16: it is full", x.untilFull(0), 0);
        due("5: all is tipped", x.swap(0), 20);
        due("15: it is full no more", x.count(16), 0);
        SkipPermits y = grown(3, 20, 4);
        due("10: load of the largest", y.skip(0, 3), 80);
        due("10: nothing beside the largest", y.skip(0, 8), 0);
        due("16: the largest is full", y.untilFull(0), 0);
    }

    private static void skipThatIsOneUnitBelowFull() {
        SkipPermits x = grown(0, 19, 1);
        due("10: load", x.skip(0, 3), 19);
        due("15: it is not full", x.count(16), 0);
        due("16: a day more", x.untilFull(0), 1);
        x.growth(0, 1);
        due("16: a day more with one unit", x.untilFull(0), 1);
        x.growth(0, 0);
        due("16: never with none", x.untilFull(0), NONE);
    }

    private static void skipThatIsOneUnitTooFull() {
        SkipPermits x = grown(0, 21, 1);
        due("10: load", x.skip(0, 3), 20);
        due("10: beside", x.skip(0, 8), 1);
        due("15: beside", x.count(13), 1);
        due("15: it is full", x.count(16), 1);
        due("15: its load is what it holds", x.count(15), 20);
    }

    private static void skipThatWasFullBefore() {
        SkipPermits x = grown(0, 20, 1);
        x.growth(0, 30);
        x.pass(1);
        due("10: all falls beside", x.skip(0, 8), 30);
        due("10: its load stays", x.skip(0, 3), 20);
        due("6: what lies beside is not tipped", x.take(0), 20);
        due("15: what fell stays counted", x.count(13), 30);
    }

    private static void fullSkipsAreCounted() {
        SkipPermits x = States.busy();
        x.put(0, 0, 5, 20);
        x.put(0, 1, 5, 20);
        x.put(0, 2, 5, 20);
        int[] full = {0, 1, 2, 3, 3};
        for (int day = 0; day < full.length; day++) {
            due("15: full on day " + day, x.count(16), full[day]);
            x.pass(1);
        }
    }

    private static SkipPermits withLamp(int nights) {
        SkipPermits x = States.busy();
        x.set(SkipPermits.OIL, nights);
        x.set(SkipPermits.HIRE, 0);
        x.set(SkipPermits.FINE, 0);
        x.put(0, 0, 0, 0);
        return x;
    }

    private static void lampOfOneNight() {
        SkipPermits x = withLamp(1);
        x.permit(0, 9);
        due("17: the second night is dark", x.untilFine(0), 2);
        due("10: it burns", x.pass(1), 0);
        due("12: no night any more", x.skip(0, 6), 0);
        due("10: it is dark", x.pass(1), 10);
        due("12: not less than none", x.skip(0, 6), 0);
        due("8: it would not have burnt", x.oil(0), 0);
        due("10: it burns again", x.pass(1), 0);
    }

    private static void lampOfThirtyNights() {
        SkipPermits x = withLamp(30);
        due("10: it burns", x.pass(30), 0);
        due("10: it is dark", x.pass(1), 10);
        due("14: fines", x.customer(0, 3), 10);
    }

    private static void lampOnADrive() {
        SkipPermits x = States.busy();
        x.put(0, 0, 5, 0);
        x.pass(50);
        due("12: it burns no oil", x.skip(0, 6), 7);
        due("14: no fines", x.customer(0, 3), 0);
        x.set(SkipPermits.OIL, 1);
        due("8: it can be filled", x.oil(0), 7);
        due("12: for OIL nights", x.skip(0, 6), 1);
    }

    private static void lampIsFilledBelowWhatItHad() {
        SkipPermits x = withLamp(30);
        x.set(SkipPermits.OIL, 2);
        due("2: lamps burn on", x.skip(0, 6), 30);
        due("8: oil()", x.oil(0), 30);
        due("8: OIL nights from now on", x.skip(0, 6), 2);
        due("8: oil() of a full lamp", x.oil(0), 2);
    }

    private static SkipPermits withPermit(int days) {
        SkipPermits x = States.busy();
        x.put(0, 0, 0, 0);
        x.set(SkipPermits.HIRE, 0);
        x.set(SkipPermits.DARK, 0);
        due("7: permit(0, " + days + ")", x.permit(0, days), days - 1);
        return x;
    }

    private static void permitOfOneDay() {
        SkipPermits x = withPermit(1);
        due("13: none is without on the day of now", x.street(0, 2), 0);
        due("17: the day behind it", x.untilFine(0), 1);
        due("10: a fine", x.pass(1), 15);
        due("13: without", x.street(0, 2), 1);
    }

    private static void permitOnItsLastDay() {
        SkipPermits x = withPermit(3);
        due("10: no fine up to the last day", x.pass(2), 0);
        due("13: none is without on the last day", x.street(0, 2), 0);
        due("7: from behind its last day on", x.permit(0, 1), 3);
        due("10: no fine", x.pass(1), 0);
        due("10: a fine behind it", x.pass(1), 15);
    }

    private static void permitOnTheDayAfterItsLast() {
        SkipPermits x = withPermit(3);
        due("10: one fine", x.pass(3), 15);
        due("7: from the day of now on", x.permit(0, 1), 3);
        due("13: none is without", x.street(0, 2), 0);
        due("10: the next day is behind it", x.pass(1), 15);
    }

    private static void permitOfNinetyNineDays() {
        SkipPermits x = withPermit(99);
        due("14: PERMIT for each", x.customer(0, 0), 25 + 99 * 2);
        due("7: again", x.permit(0, 99), 197);
        due("14: PERMIT for each, again", x.customer(0, 0), 25 + 198 * 2);
        due("10: no fine", x.pass(99) + x.pass(98), 0);
        due("10: a fine", x.pass(1), 15);
    }

    private static void permitThatIsOverStillTellsItsDay() {
        SkipPermits x = withPermit(1);
        x.pass(5);
        due("12: its last day", x.skip(0, 7), 0);
        due("13: without", x.street(0, 2), 1);
        x.swap(0);
        due("5: a swap leaves it", x.skip(0, 7), 0);
    }

    private static void permitIsForTheDayOfNow() {
        SkipPermits x = withPermit(1);
        x.put(0, 0, 0, 0);
        x.put(0, 0, 1, 0);
        x.put(0, 0, 5, 0);
        due("13: one is without", x.street(0, 2), 1);
        due("13: in the next street, too", x.street(1, 2), 1);
        x.permit(1, 1);
        due("13: none is without", x.street(0, 2), 0);
        due("13: none in a street without skips", x.street(2, 2), 0);
    }

    private static void dayAfterDayIsAsManyAtOnce() {
        SkipPermits x = States.settled(), y = States.settled();
        int sum = 0;
        for (int i = 0; i < 30; i++) {
            sum += x.pass(1);
        }
        due("10: charged in them", y.pass(30), sum);
        for (int skip = 0; skip < 3; skip++) {
            for (int what = 0; what <= 10; what++) {
                due("10: skip(" + skip + ", " + what + ")", y.skip(skip, what), x.skip(skip, what));
            }
        }
        due("10: fines", y.count(14), x.count(14));
        due("10: beside", y.count(13), x.count(13));
    }

    private static void upToTheLastDay() {
        SkipPermits x = new SkipPermits();
        for (int i = 0; i < 100; i++) {
            x.pass(99);
        }
        x.pass(97);
        due("10: day 9997", x.count(8), 9997);
        due("10: three days are too many", x.pass(3), TOO_MANY);
        due("10: two days are not", x.pass(2), 0);
        due("10: day 9999", x.count(8), 9999);
        due("10: one day is too many", x.pass(1), TOO_MANY);
        due("10: day 9999 still", x.count(8), 9999);
        due("4: put() goes on", x.put(0, 0, 0, 9), 0);
        due("7: permit() goes beyond", x.permit(0, 2), 10000);
        due("18: cost() looks beyond", x.cost(0, 2), 3 + 3 + 15);
        due("16: untilFull() looks beyond", x.untilFull(0), 3);
        due("17: untilFine() looks beyond", x.untilFine(0), 2);
        due("19: bestSwap() looks beyond", x.bestSwap(0, 4, 0), 2);
        x.undo();
        x.undo();
        x.undo();
        due("24: undo() of the last days", x.count(8), 9997);
        due("10: then they can pass again", x.pass(1), 0);
    }

    private static void takenSkipLeavesTheOthersInOrder() {
        for (int taken = 0; taken < 4; taken++) {
            SkipPermits x = States.busy();
            for (int i = 0; i < 4; i++) {
                x.put(i, 0, 5, 10 + i);
            }
            x.take(taken);
            for (int i = 0; i < 3; i++) {
                due("6: take(" + taken + "), skip " + i, x.skip(i, 5), 10 + (i < taken ? i : i + 1));
            }
            due("6: the next number is the last", x.put(5, 0, 5, 20), 3);
            due("6: the next one stands there", x.skip(3, 5), 20);
        }
    }

    /** Ten of the largest skips, with the highest settings, from the first day to the last. */
    private static void largestSums() {
        SkipPermits x = States.busy();
        x.set(SkipPermits.HIRE, 20);
        x.set(SkipPermits.FINE, 90);
        x.set(SkipPermits.DARK, 90);
        x.set(SkipPermits.TRIP, 0);
        x.set(SkipPermits.OIL, 1);
        for (int i = 0; i < 9; i++) {
            x.put(5, 3, i / 2, 30);
        }
        x.pass(99);
        x.put(5, 3, 4, 30);
        for (int i = 0; i < 100; i++) {
            x.pass(99);
        }
        long coins = 9999L * 9 * (80 + 90) + 9998L * 9 * 90 + 9900L * (80 + 90) + 9899L * 90;
        due("10: the last day", x.count(8), 9999);
        due("14: charged", x.customer(5, 0), coins);
        due("15: charged", x.count(11), coins);
        due("15: beside", x.count(13), 9 * (9999 * 30 - 80) + 9900 * 30 - 80);
        due("15: loads", x.count(15), 800);
        due("15: all ten are full", x.count(16), 10);
        due("18: 200 days more", x.cost(5, 200), 200 * 10 * (80 + 90 + 90));
    }
}
