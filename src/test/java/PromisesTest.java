import java.util.List;

/** Each numbered promise of the document: ordinary inputs, the edges that it names, and wrong inputs. */
public final class PromisesTest {
    private static final int NO_SUCH = -1, BAD_VALUE = -2, BAD_TEXT = -3, TOO_MANY = -4, NOT_POSSIBLE = -5, NONE = -6;
    private static final int LEAST = Integer.MIN_VALUE, MOST = Integer.MAX_VALUE;
    private static final Checks CHECKS = new Checks();

    private static void due(String call, long got, long want) {
        CHECKS.due(call, got, want);
    }

    public static void main(String[] args) {
        promise1NewObject();
        promise2Set();
        promise3Places();
        promise4Put();
        promise4PutErrorsInOrder();
        promise5Swap();
        promise6Take();
        promise7Permit();
        promise8Oil();
        promise9Growth();
        promise10Pass();
        promise10PassToTheLastDay();
        promise11Run();
        promise12Skip();
        promise13Street();
        promise14Customer();
        promise15Count();
        promise16UntilFull();
        promise17UntilFine();
        promise18Cost();
        promise19BestSwap();
        promise20Dearest();
        promise21Write();
        promise22Wipe();
        promise23Fault();
        promise24Undo();
        promise24UndoOfEveryChange();
        promise25Save();
        promise26Restore();
        CHECKS.end();
    }

    private static void promise1NewObject() {
        SkipPermits x = new SkipPermits();
        int[] numbers = {3, 2, 15, 10, 1, 25, 7, 2, 0, 0, 2, 0, 0, 0, 0, 0, 0, 0, 0};
        for (int what = 0; what < numbers.length; what++) {
            due("1: count(" + what + ")", x.count(what), numbers[what]);
        }
        for (int street = 0; street < 5; street++) {
            due("1: street(" + street + ", 0)", x.street(street, 0), 2);
            due("1: street(" + street + ", 1)", x.street(street, 1), 0);
        }
        for (int customer = 0; customer < 6; customer++) {
            due("1: customer(" + customer + ", 0)", x.customer(customer, 0), 0);
        }
        due("1: restore(0)", x.restore(0), NOT_POSSIBLE);
        due("1: restore(1)", x.restore(1), NOT_POSSIBLE);
        due("1: skip(0, 0)", x.skip(0, 0), NO_SUCH);
        SkipPermits other = new SkipPermits();
        other.set(SkipPermits.HIRE, 9);
        due("1: count(0) of another object", x.count(0), 3);
    }

    private static void promise2Set() {
        int[] highest = {20, 20, 90, 90, 9, 90, 30, 9};
        int[] lowest = {0, 0, 0, 0, 0, 0, 1, 0};
        int[] first = {3, 2, 15, 10, 1, 25, 7, 2};
        SkipPermits x = new SkipPermits();
        for (int setting = 0; setting < 8; setting++) {
            due("2: set above, " + setting, x.set(setting, highest[setting] + 1), BAD_VALUE);
            due("2: set below, " + setting, x.set(setting, lowest[setting] - 1), BAD_VALUE);
            due("2: set highest, " + setting, x.set(setting, highest[setting]), first[setting]);
            due("2: set lowest, " + setting, x.set(setting, lowest[setting]), highest[setting]);
            due("2: count(" + setting + ")", x.count(setting), lowest[setting]);
        }
        int[] wrong = {-1, 8, LEAST, MOST};
        for (int setting : wrong) {
            due("2: set(" + setting + ", 1)", x.set(setting, 1), BAD_VALUE);
        }
        due("2: set(0, MOST)", x.set(0, MOST), BAD_VALUE);
        due("2: set(0, LEAST)", x.set(0, LEAST), BAD_VALUE);
        due("2: count(18)", x.count(18), 6);
    }

    private static void promise3Places() {
        SkipPermits x = States.busy();
        due("3: places(0, 4)", x.places(0, 4), 2);
        for (int i = 0; i < 4; i++) {
            due("3: put", x.put(0, 0, 0, 0), i);
        }
        due("3: put", x.put(0, 0, 0, 0), NOT_POSSIBLE);
        due("3: places(0, 1)", x.places(0, 1), 4);
        due("3: skips that stand there stay", x.street(0, 1), 4);
        x.take(0);
        x.take(0);
        due("3: put into the street with too many", x.put(0, 0, 0, 0), NOT_POSSIBLE);
        due("3: places(4, 1)", x.places(4, 1), 2);
        due("3: places(5, 1)", x.places(5, 1), NO_SUCH);
        due("3: places(-1, 1)", x.places(-1, 1), NO_SUCH);
        due("3: places(5, 0)", x.places(5, 0), NO_SUCH);
        due("3: places(0, 0)", x.places(0, 0), BAD_VALUE);
        due("3: places(0, 5)", x.places(0, 5), BAD_VALUE);
        due("3: places(LEAST, 1)", x.places(LEAST, 1), NO_SUCH);
        due("3: places(0, MOST)", x.places(0, MOST), BAD_VALUE);
    }

    private static void promise4Put() {
        SkipPermits x = new SkipPermits();
        x.set(SkipPermits.OIL, 30);
        due("4: put", x.put(5, 3, 4, 30), 0);
        int[] about = {5, 3, 4, 0, 80, 30, 30, NONE, 0, 0, 25};
        for (int what = 0; what < about.length; what++) {
            due("4: skip(0, " + what + ")", x.skip(0, what), about[what]);
        }
        due("4: customer(5, 0)", x.customer(5, 0), 25);
        due("4: count(10)", x.count(10), 1);
        due("4: put on a drive", x.put(0, 0, 5, 0), 1);
        due("4: no trip is left", x.put(0, 0, 5, 0), NOT_POSSIBLE);
        due("4: what it holds", x.skip(1, 4), 20);
        SkipPermits y = States.busy();
        for (int i = 0; i < 7; i++) {
            due("4: any number on drives", y.put(1, 1, 5, 1), i);
        }
        due("4: drives are no street", y.street(0, 1), 0);
        SkipPermits z = new SkipPermits();
        z.save(0);
        z.put(0, 0, 0, 30);
        z.permit(0, 1);
        z.pass(1);
        z.restore(0);
        z.put(1, 0, 0, 0);
        due("4: nothing of a skip that is no more, load", z.skip(0, 3), 0);
        due("4: nothing of a skip that is no more, permit", z.skip(0, 7), NONE);
        due("4: nothing of a skip that is no more, beside", z.skip(0, 8), 0);
        due("4: nothing of a skip that is no more, days", z.skip(0, 9), 0);
        due("4: nothing of a skip that is no more, charged", z.skip(0, 10), 25);
    }

    private static void promise4PutErrorsInOrder() {
        SkipPermits x = States.busy();
        due("4: put(6, 9, ..)", x.put(6, 9, 0, 99), NO_SUCH);
        due("4: put(-1, ..)", x.put(-1, 0, 0, 0), NO_SUCH);
        due("4: put street -1", x.put(0, 9, -1, 99), NO_SUCH);
        due("4: put street 6", x.put(0, 0, 6, 0), NO_SUCH);
        due("4: put size -1", x.put(0, -1, 0, 0), BAD_VALUE);
        due("4: put size 4", x.put(0, 4, 0, 0), BAD_VALUE);
        due("4: put growth -1", x.put(0, 0, 0, -1), BAD_VALUE);
        due("4: put growth 31", x.put(0, 0, 0, 31), BAD_VALUE);
        due("4: put(MOST..)", x.put(MOST, MOST, MOST, MOST), NO_SUCH);
        due("4: put size LEAST", x.put(0, LEAST, 0, 0), BAD_VALUE);
        for (int i = 0; i < 9; i++) {
            x.put(0, 0, i < 2 ? 0 : 5, 0);
        }
        due("4: full street, bad size", x.put(0, 4, 0, 0), BAD_VALUE);
        x.pass(1);
        due("4: the tenth", x.put(0, 0, 5, 0), 9);
        due("4: the eleventh", x.put(0, 0, 5, 0), TOO_MANY);
        due("4: the eleventh in a full street", x.put(0, 0, 0, 0), NOT_POSSIBLE);
        x.set(SkipPermits.TRIPS, 1);
        due("4: the eleventh without a trip", x.put(0, 0, 5, 0), NOT_POSSIBLE);
        due("4: the eleventh of no customer", x.put(9, 0, 5, 0), NO_SUCH);
    }

    private static void promise5Swap() {
        SkipPermits x = new SkipPermits();
        x.put(2, 0, 1, 15);
        x.permit(0, 3);
        x.pass(2);
        x.set(SkipPermits.TIP, 9);
        x.set(SkipPermits.TRIP, 90);
        int charged = x.customer(2, 0);
        due("5: swap(0)", x.swap(0), 20);
        due("5: TRIP and TIP", x.customer(2, 0), charged + 90 + 180);
        due("5: of the skip too", x.skip(0, 10), charged + 90 + 180);
        due("5: load", x.skip(0, 3), 0);
        int[] stays = {2, 0, 1, 0, 20, 15, 5, 2, 10, 2};
        for (int what = 0; what < stays.length; what++) {
            due("5: skip(0, " + what + ")", x.skip(0, what), stays[what]);
        }
        due("5: tipped", x.count(12), 20);
        due("5: swap of an empty one", x.swap(0), 0);
        due("5: no trip left", x.swap(0), NOT_POSSIBLE);
        due("5: swap(1)", x.swap(1), NO_SUCH);
        due("5: swap(-1)", x.swap(-1), NO_SUCH);
        due("5: swap(MOST)", x.swap(MOST), NO_SUCH);
    }

    private static void promise6Take() {
        SkipPermits x = States.busy();
        for (int customer = 0; customer < 4; customer++) {
            x.put(customer, customer, customer, 5 + customer);
        }
        x.pass(1);
        due("6: take(1)", x.take(1), 6);
        due("6: count(9)", x.count(9), 3);
        int[] stay = {0, 2, 3};
        for (int i = 0; i < 3; i++) {
            due("6: skip(" + i + ", 0)", x.skip(i, 0), stay[i]);
            due("6: skip(" + i + ", 5)", x.skip(i, 5), 5 + stay[i]);
        }
        due("6: what it was charged stays", x.customer(1, 0), 25 + 6 + 15 + 25 + 6);
        due("6: its tipped units stay", x.customer(1, 2), 6);
        due("6: its fines stay", x.customer(1, 3), 15);
        due("6: its place is free", x.street(1, 1), 0);
        due("6: put takes the last number", x.put(5, 0, 1, 0), 3);
        due("6: with nothing of the old one", x.skip(3, 10), 25);
        due("6: and no load", x.skip(3, 3), 0);
        due("6: take(4)", x.take(4), NO_SUCH);
        due("6: take(-1)", x.take(-1), NO_SUCH);
        due("6: take(LEAST)", x.take(LEAST), NO_SUCH);
        x.set(SkipPermits.TRIPS, 2);
        due("6: no trip left", x.take(0), NOT_POSSIBLE);
        due("6: nothing is different", x.count(9), 4);
        x.set(SkipPermits.TRIPS, 9);
        due("6: take(3)", x.take(3), 0);
        due("6: skip(3, 0)", x.skip(3, 0), NO_SUCH);
        due("6: units that fell stay counted", fallenAfterTaking(), 10);
    }

    private static int fallenAfterTaking() {
        SkipPermits x = new SkipPermits();
        x.put(0, 0, 5, 30);
        x.pass(1);
        x.take(0);
        return x.count(13);
    }

    private static void promise7Permit() {
        SkipPermits x = States.busy();
        x.put(0, 0, 0, 0);
        x.put(0, 0, 5, 0);
        x.pass(4);
        int charged = x.customer(0, 0);
        due("7: from the day of now on", x.permit(0, 1), 4);
        due("7: PERMIT each", x.customer(0, 0), charged + 2);
        due("7: for the skip", x.skip(0, 10), 25 + 4 * 18 + 2);
        due("7: from behind its last day on", x.permit(0, 2), 6);
        x.pass(2);
        due("7: on its last day", x.permit(0, 1), 7);
        x.pass(2);
        due("7: when it is just over", x.permit(0, 1), 8);
        x.pass(5);
        due("7: when it is long over", x.permit(0, 99), 13 + 98);
        due("7: permit(0, 0)", x.permit(0, 0), BAD_VALUE);
        due("7: permit(0, 100)", x.permit(0, 100), BAD_VALUE);
        due("7: permit(0, LEAST)", x.permit(0, LEAST), BAD_VALUE);
        due("7: permit(1, 1)", x.permit(1, 1), NOT_POSSIBLE);
        due("7: permit(1, 0)", x.permit(1, 0), BAD_VALUE);
        due("7: permit(2, 0)", x.permit(2, 0), NO_SUCH);
        due("7: permit(-1, 1)", x.permit(-1, 1), NO_SUCH);
    }

    private static void promise8Oil() {
        SkipPermits x = States.busy();
        x.put(0, 0, 0, 0);
        x.pass(3);
        int charged = x.count(11);
        due("8: oil(0)", x.oil(0), 4);
        due("8: skip(0, 6)", x.skip(0, 6), 7);
        x.set(SkipPermits.OIL, 2);
        due("8: nights stay when OIL is set", x.skip(0, 6), 7);
        due("8: oil(0) to fewer", x.oil(0), 7);
        due("8: skip(0, 6)", x.skip(0, 6), 2);
        due("8: it costs nothing", x.count(11), charged);
        due("8: and no trip", x.count(10), 9);
        x.put(0, 0, 5, 0);
        x.pass(5);
        due("8: dark", x.oil(0), 0);
        due("8: on a drive no oil burns", x.oil(1), 2);
        due("8: oil(2)", x.oil(2), NO_SUCH);
        due("8: oil(-1)", x.oil(-1), NO_SUCH);
        due("8: oil(MOST)", x.oil(MOST), NO_SUCH);
    }

    private static void promise9Growth() {
        SkipPermits x = States.busy();
        x.put(0, 0, 0, 7);
        due("9: growth(0, 30)", x.growth(0, 30), 7);
        due("9: growth(0, 0)", x.growth(0, 0), 30);
        due("9: skip(0, 5)", x.skip(0, 5), 0);
        x.pass(1);
        due("9: skip(0, 3)", x.skip(0, 3), 0);
        due("9: growth(0, 31)", x.growth(0, 31), BAD_VALUE);
        due("9: growth(0, -1)", x.growth(0, -1), BAD_VALUE);
        due("9: growth(1, 31)", x.growth(1, 31), NO_SUCH);
        due("9: growth(-1, 0)", x.growth(-1, 0), NO_SUCH);
    }

    private static void promise10Pass() {
        SkipPermits x = new SkipPermits();
        x.put(0, 1, 0, 25);
        x.put(1, 3, 5, 0);
        x.permit(0, 2);
        due("10: no trip is left", x.count(10), 0);
        due("10: HIRE for the size", x.pass(1), 6 + 12);
        due("10: trips are forgotten", x.count(10), 2);
        due("10: the permit is over", x.pass(1), 6 + 15 + 12);
        due("10: load", x.skip(0, 3), 40);
        due("10: beside", x.skip(0, 8), 10);
        due("10: lamp", x.skip(0, 6), 5);
        x.pass(1);
        x.pass(1);
        due("10: beside, added up", x.skip(0, 8), 60);
        due("10: beside of all, added up", x.count(13), 60);
        x.undo();
        x.undo();
        due("10: no lamp burns on a drive", x.skip(1, 6), 7);
        due("10: the lamp's last nights", x.pass(5), 5 * 33);
        due("10: skip(0, 6)", x.skip(0, 6), 0);
        due("10: dark", x.pass(1), 43);
        due("10: fines", x.customer(0, 3), 7 * 15 + 10);
        due("10: no fine on a drive", x.customer(1, 3), 0);
        due("10: day", x.count(8), 8);
        due("10: many at once", x.pass(99), 99 * 43);
        int[] wrong = {0, -1, 100, LEAST, MOST};
        for (int days : wrong) {
            due("10: pass(" + days + ")", x.pass(days), BAD_VALUE);
        }
        due("10: day", x.count(8), 107);
    }

    private static void promise10PassToTheLastDay() {
        SkipPermits x = new SkipPermits();
        for (int i = 0; i < 100; i++) {
            x.pass(99);
        }
        due("10: day", x.count(8), 9900);
        due("10: pass(100)", x.pass(100), BAD_VALUE);
        due("10: to day 9999", x.pass(99), 0);
        due("10: to day 10000", x.pass(1), TOO_MANY);
        due("10: pass(0) there", x.pass(0), BAD_VALUE);
        due("10: day", x.count(8), 9999);
        x.put(0, 0, 0, 1);
        due("10: what if goes on", x.untilFull(0), 20);
        due("10: permit there", x.permit(0, 99), 10097);
        Checks.write(x, ".1;w0");
        due("10: run() passes over it", x.run(), 1);
    }

    private static void promise11Run() {
        SkipPermits x = new SkipPermits();
        due("11: an empty pad", x.run(), BAD_TEXT);
        Checks.write(x, "+012:30;+300:0;.2;w0;-1;p0:30;o0;.1;w7");
        due("11: run()", x.run(), 8);
        due("11: the pad is emptied", x.count(17), 0);
        due("11: day", x.count(8), 3);
        due("11: skips", x.count(9), 1);
        due("11: skip(0, 0)", x.skip(0, 0), 0);
        due("11: skip(0, 1)", x.skip(0, 1), 1);
        due("11: skip(0, 2)", x.skip(0, 2), 2);
        due("11: skip(0, 5)", x.skip(0, 5), 30);
        due("11: permit", x.skip(0, 7), 31);
        due("11: lamp", x.skip(0, 6), 6);
        due("11: load", x.skip(0, 3), 30);
        due("11: one change", x.count(18), 1);
        Checks.write(x, "w9;-9;o5");
        due("11: all passed over", x.run(), 0);
        due("11: still a change", x.count(18), 2);
        Checks.write(x, "w0;w0;w0");
        due("11: trips end", x.run(), 2);
        due("11: undo()", x.undo(), 2);
        due("11: the pad stays empty", x.count(17), 0);
        due("11: all orders are undone", x.skip(0, 3), 30);
        Checks.write(x, "o0;x");
        due("11: a fault", x.run(), BAD_TEXT);
        SkipPermits y = new SkipPermits();
        Checks.write(y, "+000:17;p0:23;.12");
        due("11: numbers of two digits", y.run(), 3);
        due("11: growth", y.skip(0, 5), 17);
        due("11: permit", y.skip(0, 7), 22);
        due("11: day", y.count(8), 12);
        due("11: the pad stays", x.count(17), 4);
        due("11: no change", x.count(18), 2);
    }

    private static void promise12Skip() {
        SkipPermits x = States.busy();
        x.pass(3);
        x.put(1, 0, 2, 0);
        x.put(4, 2, 3, 25);
        x.permit(1, 4);
        x.pass(3);
        int[] about = {4, 2, 3, 60, 60, 25, 4, 6, 15, 3, 25 + 8 + 3 * 9};
        for (int what = 0; what < about.length; what++) {
            due("12: skip(1, " + what + ")", x.skip(1, what), about[what]);
        }
        x.pass(10);
        due("12: a permit that is over", x.skip(1, 7), 6);
        due("12: skip(0, 7)", x.skip(0, 7), NONE);
        due("12: skip(0, 11)", x.skip(0, 11), BAD_VALUE);
        due("12: skip(0, -1)", x.skip(0, -1), BAD_VALUE);
        due("12: skip(0, LEAST)", x.skip(0, LEAST), BAD_VALUE);
        due("12: skip(2, 11)", x.skip(2, 11), NO_SUCH);
        due("12: skip(-1, 0)", x.skip(-1, 0), NO_SUCH);
        due("12: skip(MOST, 0)", x.skip(MOST, 0), NO_SUCH);
    }

    private static void promise13Street() {
        SkipPermits x = States.busy();
        x.places(1, 3);
        for (int i = 0; i < 3; i++) {
            x.put(0, 0, 1, 0);
        }
        x.permit(0, 1);
        x.permit(1, 2);
        due("13: places", x.street(1, 0), 3);
        due("13: skips", x.street(1, 1), 3);
        due("13: without a permit", x.street(1, 2), 1);
        x.pass(1);
        due("13: one is over", x.street(1, 2), 2);
        x.pass(1);
        due("13: two are over", x.street(1, 2), 3);
        due("13: another street", x.street(0, 2), 0);
        due("13: street(5, 9)", x.street(5, 9), NO_SUCH);
        due("13: street(-1, 0)", x.street(-1, 0), NO_SUCH);
        due("13: street(0, 3)", x.street(0, 3), BAD_VALUE);
        due("13: street(0, -1)", x.street(0, -1), BAD_VALUE);
    }

    private static void promise14Customer() {
        SkipPermits x = States.busy();
        x.put(5, 0, 0, 10);
        x.put(5, 1, 5, 0);
        x.put(4, 0, 0, 0);
        x.pass(8);
        due("14: charged", x.customer(5, 0), 50 + 8 * (3 + 15 + 6) + 10);
        due("14: skips", x.customer(5, 1), 2);
        due("14: fines", x.customer(5, 3), 8 * 15 + 10);
        x.swap(0);
        x.pass(1);
        x.take(0);
        due("14: tipped", x.customer(5, 2), 30);
        due("14: skips", x.customer(5, 1), 1);
        due("14: of another", x.customer(4, 2), 0);
        due("14: customer(6, 9)", x.customer(6, 9), NO_SUCH);
        due("14: customer(-1, 0)", x.customer(-1, 0), NO_SUCH);
        due("14: customer(0, 4)", x.customer(0, 4), BAD_VALUE);
        due("14: customer(0, -1)", x.customer(0, -1), BAD_VALUE);
    }

    private static void promise15Count() {
        SkipPermits x = States.busy();
        x.put(0, 0, 0, 30);
        x.put(1, 0, 1, 20);
        x.put(2, 0, 2, 19);
        x.pass(1);
        x.swap(1);
        x.write('w');
        int[] numbers = {3, 2, 15, 10, 1, 25, 7, 9, 1, 3, 8, 75 + 54 + 45, 20, 10, 45, 39, 1, 1, 6};
        for (int what = 0; what < numbers.length; what++) {
            due("15: count(" + what + ")", x.count(what), numbers[what]);
        }
        x.set(SkipPermits.TRIPS, 0);
        due("15: trips left, 0 at least", x.count(10), 0);
        int[] wrong = {-1, 19, LEAST, MOST};
        for (int what : wrong) {
            due("15: count(" + what + ")", x.count(what), BAD_VALUE);
        }
    }

    private static void promise16UntilFull() {
        SkipPermits x = States.busy();
        x.put(0, 0, 5, 20);
        x.put(0, 0, 5, 19);
        x.put(0, 3, 5, 1);
        x.put(0, 0, 5, 0);
        int[] days = {1, 2, 80, NONE};
        for (int i = 0; i < 4; i++) {
            due("16: untilFull(" + i + ")", x.untilFull(i), days[i]);
        }
        x.pass(1);
        int[] later = {0, 1, 79, NONE};
        for (int i = 0; i < 4; i++) {
            due("16: untilFull(" + i + ") a day later", x.untilFull(i), later[i]);
        }
        x.growth(0, 0);
        due("16: it is full without growth", x.untilFull(0), 0);
        due("16: untilFull(4)", x.untilFull(4), NO_SUCH);
        due("16: untilFull(-1)", x.untilFull(-1), NO_SUCH);
    }

    private static void promise17UntilFine() {
        SkipPermits x = States.busy();
        x.put(0, 0, 0, 0);
        x.put(0, 0, 5, 0);
        due("17: without a permit", x.untilFine(0), 1);
        due("17: on a drive", x.untilFine(1), NONE);
        x.permit(0, 1);
        due("17: a permit for now alone", x.untilFine(0), 1);
        x.permit(0, 6);
        due("17: the permit ends first", x.untilFine(0), 7);
        x.permit(0, 1);
        due("17: both at once", x.untilFine(0), 8);
        x.permit(0, 1);
        due("17: the lamp goes out first", x.untilFine(0), 8);
        x.set(SkipPermits.FINE, 0);
        x.set(SkipPermits.DARK, 0);
        due("17: when it would be", x.untilFine(0), 8);
        x.pass(7);
        due("17: the lamp is out", x.untilFine(0), 1);
        x.oil(0);
        due("17: the permit's last day is tomorrow", x.untilFine(0), 2);
        due("17: untilFine(2)", x.untilFine(2), NO_SUCH);
        due("17: untilFine(-1)", x.untilFine(-1), NO_SUCH);
    }

    private static void promise18Cost() {
        SkipPermits x = States.busy();
        x.put(3, 2, 0, 30);
        x.put(3, 0, 5, 0);
        x.put(2, 0, 1, 0);
        x.permit(0, 4);
        due("18: 0 days", x.cost(3, 0), 0);
        due("18: no fine yet", x.cost(3, 3), 3 * 12);
        due("18: a fine", x.cost(3, 4), 4 * 12 + 15);
        due("18: dark", x.cost(3, 8), 8 * 12 + 5 * 15 + 10);
        due("18: 200 days", x.cost(3, 200), 200 * 12 + 197 * 15 + 193 * 10);
        due("18: nothing changes", x.count(8), 0);
        due("18: without skips", x.cost(0, 200), 0);
        due("18: the last customer", x.cost(5, 200), 0);
        due("18: it is what pass() charges", x.cost(3, 8) + x.cost(2, 8), x.pass(8));
        due("18: cost(6, -1)", x.cost(6, -1), NO_SUCH);
        due("18: cost(-1, 0)", x.cost(-1, 0), NO_SUCH);
        due("18: cost(0, -1)", x.cost(0, -1), BAD_VALUE);
        due("18: cost(0, 201)", x.cost(0, 201), BAD_VALUE);
        due("18: cost(0, MOST)", x.cost(0, MOST), BAD_VALUE);
    }

    private static void promise19BestSwap() {
        SkipPermits x = States.busy();
        x.put(0, 0, 0, 30);
        due("19: of several the latest", x.bestSwap(0, 2, 0), 1);
        due("19: units", x.bestSwap(0, 2, 1), 20);
        x.pass(1);
        due("19: one that is full, now", x.bestSwap(0, 1, 0), 0);
        due("19: units of now on alone", x.bestSwap(0, 1, 1), 10);
        due("19: 60 days", x.bestSwap(0, 60, 0), 59);
        due("19: 60 days, units", x.bestSwap(0, 60, 1), 60 * 30 - 20);
        x.growth(0, 0);
        due("19: nothing falls", x.bestSwap(0, 7, 0), 7);
        due("19: nothing falls, units", x.bestSwap(0, 7, 1), 0);
        x.set(SkipPermits.TRIPS, 0);
        due("19: trips do not matter", x.bestSwap(0, 7, 0), 7);
        due("19: bestSwap(1, 0, 2)", x.bestSwap(1, 0, 2), NO_SUCH);
        due("19: bestSwap(-1, 1, 0)", x.bestSwap(-1, 1, 0), NO_SUCH);
        due("19: bestSwap(0, 0, 0)", x.bestSwap(0, 0, 0), BAD_VALUE);
        due("19: bestSwap(0, 61, 0)", x.bestSwap(0, 61, 0), BAD_VALUE);
        due("19: bestSwap(0, 1, 2)", x.bestSwap(0, 1, 2), BAD_VALUE);
        due("19: bestSwap(0, 1, -1)", x.bestSwap(0, 1, -1), BAD_VALUE);
        due("19: bestSwap(0, MOST, 0)", x.bestSwap(0, MOST, 0), BAD_VALUE);
    }

    private static void promise20Dearest() {
        SkipPermits x = States.busy();
        due("20: without skips", x.dearest(), NONE);
        x.put(0, 0, 5, 0);
        x.put(1, 0, 5, 0);
        due("20: of several the lowest", x.dearest(), 0);
        x.put(0, 1, 5, 0);
        x.pass(1);
        due("20: the largest", x.dearest(), 2);
        x.swap(1);
        due("20: the swapped", x.dearest(), 1);
        x.take(0);
        due("20: numbers move up", x.dearest(), 0);
        x.take(0);
        x.take(0);
        due("20: without skips again", x.dearest(), NONE);
    }

    private static void promise21Write() {
        SkipPermits x = new SkipPermits();
        due("21: write(0)", x.write(0L), BAD_VALUE);
        due("21: a sign too low", x.write(32L), BAD_VALUE);
        due("21: the lowest sign", x.write(33L), 1);
        due("21: the highest sign", x.write(126L), 2);
        due("21: a sign too high", x.write(127L), BAD_VALUE);
        due("21: 0 as the last", x.write(0x4100L), BAD_VALUE);
        due("21: a bit above the 0", x.write(0x410041L), BAD_VALUE);
        due("21: the highest bit above the 0", x.write(Long.MIN_VALUE | 'A'), BAD_VALUE);
        due("21: a bad sign among good ones", x.write(0x41204141L), BAD_VALUE);
        due("21: a bad first sign of 8", x.write(0x8041414141414141L), BAD_VALUE);
        due("21: -1", x.write(-1L), BAD_VALUE);
        due("21: LEAST", x.write(Long.MIN_VALUE), BAD_VALUE);
        due("21: MOST", x.write(Long.MAX_VALUE), BAD_VALUE);
        for (int i = 1; i <= 7; i++) {
            due("21: 8 characters", x.write(Checks.packed("ABCDEFGH")), 2 + 8 * i);
        }
        due("21: 3 too many", x.write(Checks.packed("abc")), TOO_MANY);
        due("21: bad ones first", x.write(Checks.packed("ab ")), BAD_VALUE);
        due("21: 2 up to 60", x.write(Checks.packed("ab")), 60);
        due("21: 61", x.write('a'), TOO_MANY);
        due("21: no change", x.count(18), 0);
        x.wipe();
        Checks.write(x, "+325:30");
        due("21: from the highest on", x.run(), 1);
        due("21: in their order", x.skip(0, 0) * 100 + x.skip(0, 1) * 10 + x.skip(0, 2), 325);
    }

    private static void promise22Wipe() {
        SkipPermits x = new SkipPermits();
        due("22: an empty pad", x.wipe(), 0);
        Checks.write(x, "o0;o1;o2");
        due("22: wipe()", x.wipe(), 8);
        due("22: count(17)", x.count(17), 0);
        due("22: wipe()", x.wipe(), 0);
        due("22: write() begins again", x.write('.'), 1);
        due("22: nothing of the old text", x.fault(), 1);
        due("22: no change", x.count(18), 0);
    }

    private static void promise23Fault() {
        String[] good = {"+000:0", "+535:30", "+000:19", "+000:29", "w0", "w9", "-9", "p9:99", "p0:1", "o9", ".1", ".99",
            ".10;.1", "w0;-0;o0;p0:10;+000:3;.9"};
        for (String text : good) {
            due("23: " + text, faultOf(text), NONE);
        }
        String[] tooShort = {"", "+", "+0", "+00", "+000", "+000:", "w", "-", "o", "p", "p0", "p0:", ".", "w0;", ".1;"};
        for (String text : tooShort) {
            due("23: " + text, faultOf(text), text.length());
        }
        Object[][] bad = {{"x", 0}, {";", 0}, {"0", 0}, {"W0", 0}, {"+6", 1}, {"+04", 2}, {"+006", 3}, {"+0000", 4},
            {"+000:00", 6}, {"+000:01", 6}, {"+000:31", 6}, {"+000:40", 6}, {"+000:300", 7}, {"+000:100", 7},
            {"+000:-1", 5}, {"+:", 1}, {"w:", 1}, {"w10", 2}, {"w0w1", 2}, {"w0.1", 2}, {"w0;;w0", 3}, {"w0;x", 3},
            {"p01", 2}, {"p:", 1}, {"p;", 1}, {"+00:", 3}, {"+000;", 4}, {"p0:0", 3}, {"p0:100", 5}, {"p0:1;p0:1:", 9}, {".0", 1}, {".01", 1}, {".100", 3}, {".1.", 2},
            {"o0+", 2}, {"o~", 1}, {"o/", 1}, {".1;+000:5;y", 10}};
        for (Object[] row : bad) {
            due("23: " + row[0], faultOf((String) row[0]), (Integer) row[1]);
        }
        StringBuilder full = new StringBuilder("w0");
        while (full.length() < 59) {
            full.append(full.length() == 56 ? ";.12" : ";w0");
        }
        due("23: 60 characters", faultOf(full.toString()), full.length() == 60 ? NONE : -99);
        due("23: 60 characters, the last one is bad", faultOf(full.substring(0, 59) + "x"), 59);
    }

    private static int faultOf(String text) {
        SkipPermits x = new SkipPermits();
        Checks.write(x, text);
        int fault = x.fault();
        due("23: the pad stays", x.count(17), text.length());
        return fault;
    }

    private static void promise24Undo() {
        SkipPermits x = new SkipPermits();
        due("24: nothing to undo", x.undo(), NOT_POSSIBLE);
        x.set(SkipPermits.HIRE, 3);
        due("24: also if nothing is different", x.count(18), 1);
        x.set(SkipPermits.HIRE, 21);
        due("24: no error is recorded", x.count(18), 1);
        for (int value = 4; value <= 10; value++) {
            x.set(SkipPermits.HIRE, value);
        }
        due("24: 6 at most", x.count(18), 6);
        due("24: an error keeps all 6", x.set(SkipPermits.HIRE, 21), BAD_VALUE);
        for (int left = 5; left >= 0; left--) {
            due("24: undo()", x.undo(), left);
            due("24: HIRE", x.count(0), 4 + left);
        }
        due("24: the oldest are dropped", x.undo(), NOT_POSSIBLE);
        due("24: HIRE", x.count(0), 4);
        x.set(SkipPermits.HIRE, 20);
        due("24: a new change", x.count(18), 1);
        x.write('o');
        x.save(0);
        due("24: undo()", x.undo(), 0);
        due("24: the pad stays", x.count(17), 1);
        due("24: the slots stay", x.restore(0), 0);
        due("24: HIRE of the slot", x.count(0), 20);
    }

    /** Each change, undone: all that can be read is as before it. */
    private static void promise24UndoOfEveryChange() {
        for (int change = 0; change < 11; change++) {
            SkipPermits x = States.busy();
            x.put(0, 0, 0, 7);
            x.put(1, 1, 1, 25);
            x.save(0);
            x.pass(3);
            List<Integer> before = Probe.town(x);
            makeChange(x, change);
            due("24: recorded, change " + change, x.count(18), 5);
            due("24: undo() of change " + change, x.undo(), 4);
            List<Integer> after = Probe.town(x);
            for (int i = 0; i < before.size(); i++) {
                due("24: change " + change + ", number " + i, after.get(i), before.get(i));
            }
        }
    }

    private static void makeChange(SkipPermits x, int change) {
        switch (change) {
            case 0: x.set(SkipPermits.DARK, 1); break;
            case 1: x.places(3, 3); break;
            case 2: x.put(2, 2, 2, 2); break;
            case 3: x.swap(1); break;
            case 4: x.take(0); break;
            case 5: x.permit(0, 5); break;
            case 6: x.oil(0); break;
            case 7: x.growth(1, 1); break;
            case 8: x.pass(9); break;
            case 9: Checks.write(x, "-0;.5;+333:3"); x.run(); break;
            default: x.restore(0);
        }
    }

    private static void promise25Save() {
        SkipPermits x = States.busy();
        due("25: save(0)", x.save(0), 0);
        x.put(0, 0, 0, 0);
        due("25: save(1)", x.save(1), 1);
        x.put(0, 0, 0, 0);
        due("25: save(0)", x.save(0), 2);
        due("25: no change", x.count(18), 3);
        x.take(0);
        due("25: overwritten", x.restore(0), 2);
        due("25: the other one", x.restore(1), 1);
        int[] wrong = {-1, 2, LEAST, MOST};
        for (int slot : wrong) {
            due("25: save(" + slot + ")", x.save(slot), BAD_VALUE);
        }
    }

    private static void promise26Restore() {
        SkipPermits x = States.busy();
        due("26: nothing saved", x.restore(1), NOT_POSSIBLE);
        x.put(0, 0, 0, 9);
        x.places(4, 4);
        x.save(1);
        List<Integer> saved = Probe.town(x);
        x.set(SkipPermits.HIRE, 0);
        x.pass(5);
        x.put(1, 1, 1, 1);
        x.write('o');
        List<Integer> before = Probe.town(x);
        due("26: restore(1)", x.restore(1), 1);
        due("26: the pad stays", x.count(17), 1);
        due("26: a change", x.count(18), 6);
        List<Integer> restored = Probe.town(x);
        x.pass(2);
        due("26: the slot keeps it", x.restore(1), 1);
        List<Integer> again = Probe.town(x);
        due("26: undo()", x.undo(), 5);
        due("26: undo()", x.undo(), 4);
        due("26: undo() of the restore", x.undo(), 3);
        List<Integer> undone = Probe.town(x);
        for (int i = 0; i < saved.size(); i++) {
            due("26: number " + i, restored.get(i), saved.get(i));
            due("26: number " + i + " again", again.get(i), saved.get(i));
            due("26: number " + i + " undone", undone.get(i), before.get(i));
        }
        int[] wrong = {-1, 2, LEAST, MOST};
        for (int slot : wrong) {
            due("26: restore(" + slot + ")", x.restore(slot), BAD_VALUE);
        }
        due("26: the other slot", x.restore(0), NOT_POSSIBLE);
        due("26: errors are not recorded", x.count(18), 3);
    }
}
