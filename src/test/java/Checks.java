import java.util.List;

/** What every test of the project shares: it counts wrong answers, and writes texts to pads. */
final class Checks {
    /** How an object comes to be in which a call is tried; each time a new one, always the same. */
    interface State {
        SkipPermits make();
    }

    interface Call {
        int on(SkipPermits permits);
    }

    private int wrong = 0;
    private int checked = 0;

    void due(String call, long got, long want) {
        checked++;
        if (got != want) {
            wrong++;
            System.out.println(call + " answered " + got + ", due is " + want);
        }
    }

    /** A test of its own: one call on a new object. */
    void answer(String name, State state, int want, Call call) {
        due(name, call.on(state.make()), want);
    }

    /** The same, and behind it the object tells all that one tells on which the call was not made. */
    void unchanged(String name, State state, int want, Call call) {
        SkipPermits called = state.make();
        due(name, call.on(called), want);
        List<Integer> got = Probe.all(called);
        List<Integer> left = Probe.all(state.make());
        due(name + ", things told behind it", got.size(), left.size());
        for (int i = 0; i < Math.min(got.size(), left.size()); i++) {
            due(name + ", thing " + i + " told behind it", got.get(i), left.get(i));
        }
    }

    int wrong() {
        return wrong;
    }

    void end() {
        System.out.println(checked + " answers checked, " + wrong + " are not as due");
        if (wrong != 0) {
            System.exit(1);
        }
    }

    /** The number by which write() is given a text of up to 8 characters. */
    static long packed(String text) {
        long number = 0;
        for (int i = 0; i < text.length(); i++) {
            number = number << 8 | text.charAt(i);
        }
        return number;
    }

    static void write(SkipPermits permits, String text) {
        for (int from = 0; from < text.length(); from += 8) {
            permits.write(packed(text.substring(from, Math.min(text.length(), from + 8))));
        }
    }
}
