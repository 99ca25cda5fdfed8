/** The pad, its characters, the fault of each text, and the orders that are done or passed over. */
public final class TextsTest {
    private static final int BAD_VALUE = -2, BAD_TEXT = -3, TOO_MANY = -4, NONE = -6;
    private static final int FIRST_SIGN = 33, LAST_SIGN = 126;
    private static final String DIGITS = "0123456789", ORDERS = "+w-po.";
    private static final Checks CHECKS = new Checks();

    private static void due(String call, long got, long want) {
        CHECKS.due(call, got, want);
    }

    public static void main(String[] args) {
        signsByThemselves();
        signsAtEachPlace();
        numbersOfSigns();
        zerosBetweenSigns();
        padUpToSixty();
        emptyPad();
        padOfSixtyThatRuns();
        padOfSixtyThatEndsTooEarly();
        padOfSixtyWithTheFaultAtItsEnd();
        everySignBehindEachBeginning();
        everySignBehindTheOrdersOfAText();
        everyGrowth();
        everyNumberOfDays();
        textsThatEndTooEarly();
        firstFaultOfTwo();
        faultChangesNothing();
        ordersDoWhatTheirMethodsDo();
        ordersSeeWhatWasDoneBefore();
        ordersThatArePassedOver();
        lastDayInAText();
        runIsOneChange();
        CHECKS.end();
    }

    private static SkipPermits padOf(String text) {
        SkipPermits x = new SkipPermits();
        Checks.write(x, text);
        due("21: the length of " + text, x.count(17), text.length());
        return x;
    }

    private static int faultOf(String text) {
        return padOf(text).fault();
    }

    private static void signsByThemselves() {
        for (int code = 1; code <= 255; code++) {
            boolean fits = code >= FIRST_SIGN && code <= LAST_SIGN;
            due("21: write(" + code + ")", new SkipPermits().write(code), fits ? 1 : BAD_VALUE);
        }
    }

    private static void signsAtEachPlace() {
        long others = Checks.packed("oooooooo");
        long[] codes = {1, 32, 33, 126, 127, 128, 161, 254, 255};
        for (int place = 0; place < 8; place++) {
            for (long code : codes) {
                long characters = others & ~(255L << 8 * place) | code << 8 * place;
                boolean fits = code == 33 || code == 126;
                SkipPermits x = new SkipPermits();
                due("21: " + code + " at place " + place, x.write(characters), fits ? 8 : BAD_VALUE);
                due("21: the length then", x.count(17), fits ? 8 : 0);
            }
        }
    }

    private static void numbersOfSigns() {
        String text = "o0;o1;.9";
        for (int length = 1; length <= 8; length++) {
            SkipPermits x = new SkipPermits();
            due("21: " + length + " characters", x.write(Checks.packed(text.substring(0, length))), length);
            due("21: " + length + " more", x.write(Checks.packed(text.substring(0, length))), 2 * length);
        }
        due("21: the last one is in the lowest bits", faultOf("w0"), NONE);
        due("21: not the first one", faultOf("0w"), 0);
    }

    private static void zerosBetweenSigns() {
        due("21: no characters", new SkipPermits().write(0L), BAD_VALUE);
        for (int place = 0; place < 7; place++) {
            long characters = Checks.packed("oooooooo") & ~(255L << 8 * place);
            due("21: a 0 at place " + place, new SkipPermits().write(characters), BAD_VALUE);
        }
        for (int bit = 16; bit < 64; bit++) {
            due("21: bit " + bit + " above the 0", new SkipPermits().write('o' | 1L << bit), BAD_VALUE);
        }
    }

    private static void padUpToSixty() {
        for (int length = 53; length <= 60; length++) {
            for (int more = 1; more <= 8; more++) {
                SkipPermits x = padOf("o0;".repeat(20).substring(0, length));
                int want = length + more <= 60 ? length + more : TOO_MANY;
                due("21: " + more + " behind " + length, x.write(Checks.packed("........".substring(0, more))), want);
                due("21: the length then", x.count(17), want == TOO_MANY ? length : want);
            }
        }
    }

    private static void emptyPad() {
        SkipPermits x = new SkipPermits();
        due("23: of a new object", x.fault(), 0);
        due("11: of a new object", x.run(), BAD_TEXT);
        due("22: of a new object", x.wipe(), 0);
        Checks.write(x, "o0;");
        due("22: of a text", x.wipe(), 3);
        due("22: of one that is wiped", x.wipe(), 0);
        due("23: of one that is wiped", x.fault(), 0);
        due("11: of one that is wiped", x.run(), BAD_TEXT);
    }

    private static void padOfSixtyThatRuns() {
        SkipPermits x = States.fullPad();
        due("15: its length", x.count(17), 60);
        due("23: no fault", x.fault(), NONE);
        due("11: nineteen lamps and 99 days", x.run(), 20);
        due("10: day", x.count(8), 101);
        due("15: it is empty", x.count(17), 0);
        due("21: it takes a text again", x.write('o'), 1);
        Checks.write(x, "o0;".repeat(19) + ".9");
        due("22: 60 are wiped", x.wipe(), 60);
    }

    private static void padOfSixtyThatEndsTooEarly() {
        due("23: behind a semicolon", faultOf("o0;".repeat(20)), 60);
        due("11: it does not run", padOf("o0;".repeat(20)).run(), BAD_TEXT);
        due("23: behind a colon", faultOf("o0;".repeat(19) + "p0:"), 60);
        due("23: behind a letter", faultOf(".99;.99;" + "o0;".repeat(17) + "w"), 60);
    }

    private static void padOfSixtyWithTheFaultAtItsEnd() {
        due("23: a sign that is none", faultOf("o0;".repeat(19) + "o0x"), 59);
        due("23: a number too great", faultOf("o0;".repeat(18) + "p0:100"), 59);
        due("23: at its beginning", faultOf("x" + "o0;".repeat(19) + "o0"), 0);
    }

    /** Tries every sign behind a beginning without a fault, and says which of them can stand there. */
    private static void next(String beginning, String signs) {
        for (char sign = FIRST_SIGN; sign <= LAST_SIGN; sign++) {
            String text = beginning + sign;
            int fault = faultOf(text);
            if (signs.indexOf(sign) >= 0) {
                due("23: " + text, fault == NONE || fault == text.length() ? 1 : 0, 1);
            } else {
                due("23: " + text, fault, beginning.length());
            }
        }
    }

    private static void everySignBehindEachBeginning() {
        next("", ORDERS);
        next("+", "012345");
        next("+5", "0123");
        next("+53", "012345");
        next("+535", ":");
        next("+535:", DIGITS);
        next("+535:0", ";");
        next("+535:1", DIGITS + ";");
        next("+535:2", DIGITS + ";");
        next("+535:3", "0;");
        next("+535:4", ";");
        next("+535:9", ";");
        next("+535:10", ";");
        next("+535:30", ";");
        next("w", DIGITS);
        next("w9", ";");
        next("-", DIGITS);
        next("-9", ";");
        next("p", DIGITS);
        next("p9", ":");
        next("p9:", "123456789");
        next("p9:1", DIGITS + ";");
        next("p9:9", DIGITS + ";");
        next("p9:99", ";");
        next("o", DIGITS);
        next("o9", ";");
        next(".", "123456789");
        next(".1", DIGITS + ";");
        next(".9", DIGITS + ";");
        next(".99", ";");
    }

    private static void everySignBehindTheOrdersOfAText() {
        String[] orders = {"+000:0;", "+535:30;", "w0;", "-0;", "p0:1;", "p0:99;", "o0;", ".1;", ".99;"};
        for (String order : orders) {
            next(order, ORDERS);
            next(order + order, ORDERS);
            next(order + "+", "012345");
            next(order + "w", DIGITS);
            next(order + ".", "123456789");
        }
    }

    private static void everyGrowth() {
        for (int growth = 0; growth <= 130; growth++) {
            int fault = growth <= 30 ? NONE : growth < 100 ? 6 : growth / 10 <= 30 ? 7 : 6;
            due("23: +000:" + growth, faultOf("+000:" + growth), fault);
        }
        for (int growth = 0; growth <= 30; growth++) {
            SkipPermits x = padOf("+000:" + growth);
            due("11: +000:" + growth, x.run(), 1);
            due("11: its growth", x.skip(0, 5), growth);
            due("23: a leading zero", faultOf("+000:0" + growth), 6);
        }
    }

    private static void everyNumberOfDays() {
        for (int days = 1; days <= 99; days++) {
            SkipPermits x = padOf("." + days);
            due("11: ." + days, x.run(), 1);
            due("11: the day then", x.count(8), days);
            x.put(0, 0, 0, 0);
            Checks.write(x, "p0:" + days);
            due("11: p0:" + days, x.run(), 1);
            due("11: its last day", x.skip(0, 7), 2 * days - 1);
            due("23: a leading zero", faultOf(".0" + days), 1);
            due("23: a leading zero of a permit", faultOf("p0:0" + days), 3);
        }
        for (int days = 100; days <= 130; days++) {
            due("23: ." + days, faultOf("." + days), 3);
            due("23: p0:" + days, faultOf("p0:" + days), 5);
        }
        due("23: no days", faultOf(".0"), 1);
        due("23: a permit for no days", faultOf("p0:0"), 3);
    }

    private static void textsThatEndTooEarly() {
        String[] beginnings = {"", "+", "+5", "+53", "+535", "+535:", "w", "-", "p", "p9", "p9:", "o", "."};
        for (String beginning : beginnings) {
            due("23: " + beginning, faultOf(beginning), beginning.length());
            due("11: " + beginning, padOf(beginning).run(), BAD_TEXT);
            String text = ".99;+000:30;" + beginning;
            due("23: " + text, faultOf(text), text.length());
            due("11: " + text, padOf(text).run(), BAD_TEXT);
        }
    }

    private static void firstFaultOfTwo() {
        due("23: two bad signs", faultOf("wx;y"), 1);
        due("23: a bad sign and an end too early", faultOf("o0;+9"), 4);
        due("23: a number too great and a bad sign", faultOf("+000:31x"), 6);
        due("23: two orders without a semicolon", faultOf("o0o1;x"), 2);
    }

    private static void faultChangesNothing() {
        CHECKS.unchanged("23: a fault", States::padWithFault, 5, x -> x.fault());
        CHECKS.unchanged("23: no fault", States::fullPad, NONE, x -> x.fault());
        CHECKS.unchanged("23: an empty pad", States::emptyPad, 0, x -> x.fault());
    }

    private static void ordersDoWhatTheirMethodsDo() {
        String[] orders = {"+321:17", "w1", "-1", "p1:23", "o0", ".12"};
        Checks.Call[] calls = {x -> x.put(3, 2, 1, 17), x -> x.swap(1), x -> x.take(1), x -> x.permit(1, 23),
            x -> x.oil(0), x -> x.pass(12)};
        for (int i = 0; i < orders.length; i++) {
            SkipPermits x = States.emptyPad(), y = States.emptyPad();
            x.pass(1);
            y.pass(1);
            Checks.write(x, orders[i]);
            due("11: " + orders[i], x.run(), 1);
            calls[i].on(y);
            due("11: as its method, " + orders[i], Probe.all(x).equals(Probe.all(y)) ? 1 : 0, 1);
        }
    }

    private static void ordersSeeWhatWasDoneBefore() {
        SkipPermits x = padOf("w0;+030:30;.1;w0;-0;o0");
        due("11: a skip that is put first", x.run(), 4);
        due("15: no skips", x.count(9), 0);
        due("15: 30 units are tipped", x.count(12), 30);
        SkipPermits y = padOf("+000:0;+100:0;.1;+200:0;-0;+300:0;w0");
        due("11: a place that becomes free, and no third trip", y.run(), 5);
        due("11: the second moved up", y.skip(0, 0), 1);
        due("11: behind it the one that took its place", y.skip(1, 0), 3);
        due("15: two skips", y.count(9), 2);
    }

    private static void ordersThatArePassedOver() {
        passedOver("a full street", States.fullStreet(), "+000:0");
        passedOver("no trip left to put", States.noTrip(), "+000:0");
        passedOver("no trip left to swap", States.noTrip(), "w0");
        passedOver("no trip left to take", States.noTrip(), "-0");
        passedOver("ten skips", States.tenSkips(), "+005:0");
        passedOver("no such skip to swap", States.fullStreet(), "w2");
        passedOver("no such skip to take", States.fullStreet(), "-9");
        passedOver("no such skip for a permit", States.fullStreet(), "p2:1");
        passedOver("no such lamp", States.fullStreet(), "o2");
        passedOver("a permit on a drive", States.noTrip(), "p1:1");
    }

    private static void passedOver(String name, SkipPermits x, String order) {
        x.wipe();
        String before = Probe.town(x).toString();
        Checks.write(x, order);
        due("11: " + name, x.run(), 0);
        due("11: nothing is different, " + name, Probe.town(x).toString().equals(before) ? 1 : 0, 1);
        Checks.write(x, order + ";" + order + ";o0;" + order);
        due("11: the next one is done, " + name, x.run(), 1);
    }

    private static void lastDayInAText() {
        passedOver("a day above 9999", States.lastDay(), ".1");
        passedOver("99 days above 9999", States.lastDay(), ".99");
        SkipPermits x = States.lastDay();
        x.undo();
        x.wipe();
        Checks.write(x, ".98;.2;.1;.1");
        due("11: up to the last day", x.run(), 2);
        due("11: the last day", x.count(8), 9999);
    }

    private static void runIsOneChange() {
        SkipPermits x = padOf("+000:1;.1;.2;o0;p0:3");
        due("11: five orders", x.run(), 5);
        due("24: one change", x.count(18), 1);
        due("24: undo()", x.undo(), 0);
        due("24: all of them are undone", Probe.town(x).equals(Probe.town(States.fresh())) ? 1 : 0, 1);
        Checks.write(x, "w0;-0");
        due("11: none is done", x.run(), 0);
        due("24: a change all the same", x.count(18), 1);
        due("15: the pad is empty all the same", x.count(17), 0);
    }
}
