/** What every test of the project shares: it counts wrong answers, and writes texts to pads. */
final class Checks {
    private int wrong = 0;
    private int checked = 0;

    void due(String call, long got, long want) {
        checked++;
        if (got != want) {
            wrong++;
            System.out.println(call + " answered " + got + ", due is " + want);
        }
    }

    int wrong() {
        return wrong;
    }

    void end() {
        System.out.println(checked + " answers checked, " + wrong + " are not as due");
        if (wrong != 0) {
            System.exit(1);
        }
    }

    /** The number by which write() is given a text of up to 8 characters. */
    static long packed(String text) {
        long number = 0;
        for (int i = 0; i < text.length(); i++) {
            number = number << 8 | text.charAt(i);
        }
        return number;
    }

    static void write(SkipPermits permits, String text) {
        for (int from = 0; from < text.length(); from += 8) {
            permits.write(packed(text.substring(from, Math.min(text.length(), from + 8))));
        }
    }
}
