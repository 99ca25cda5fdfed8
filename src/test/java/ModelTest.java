import java.util.Random;

/** Long runs of chosen calls, always the same ones, each answer compared with the plain model's. */
public final class ModelTest {
    private static final int RUNS = 400, CALLS = 512;
    private static final int[] WILD = {-1, -2, -6, 6, 7, 10, 11, 31, 61, 100, 201, Integer.MIN_VALUE, Integer.MAX_VALUE};

    private final Checks checks;
    private final Random random;
    private final boolean readsAll;
    private final SkipPermits permits = new SkipPermits();
    private final PlainModel model = new PlainModel();
    private String told;

    private ModelTest(Checks checks, int run) {
        this.checks = checks;
        this.random = new Random(run);
        this.readsAll = run % 20 == 0;
        this.told = "run " + run + ": ";
    }

    public static void main(String[] args) {
        Checks checks = new Checks();
        for (int run = 0; run < RUNS && checks.wrong() == 0; run++) {
            new ModelTest(checks, run).play(run);
        }
        checks.end();
    }

    private void play(int run) {
        String start = told;
        if (run % 3 != 0) {
            same("set(7, 9)", permits.set(7, 9), model.set(7, 9, true));
        }
        for (int call = 0; call < CALLS && checks.wrong() == 0; call++) {
            told = start + "call " + call + ": ";
            act();
            if (readsAll) {
                readAll();
            }
        }
    }

    private void same(String call, int got, int want) {
        checks.due(told + call, got, want);
    }

    /** Mostly a number from low to high, now and then one outside. */
    private int some(int low, int high) {
        int kind = random.nextInt(40);
        if (kind == 0) return WILD[random.nextInt(WILD.length)];
        if (kind == 1) return low - 1;
        if (kind == 2) return high + 1;
        if (kind < 6) return low;
        if (kind < 9) return high;
        return low + random.nextInt(high - low + 1);
    }

    private int someSkip() {
        return some(0, Math.max(0, model.count(9) - 1));
    }

    private void act() {
        int kind = random.nextInt(100);
        if (kind < 5) set();
        else if (kind < 8) places();
        else if (kind < 24) put();
        else if (kind < 29) swap();
        else if (kind < 32) take();
        else if (kind < 40) permit();
        else if (kind < 44) oil();
        else if (kind < 47) growth();
        else if (kind < 58) pass();
        else if (kind < 62) undo();
        else if (kind < 65) save();
        else if (kind < 67) restore();
        else if (kind < 74) text();
        else if (kind < 75) write(random.nextLong() >>> random.nextInt(64));
        else read();
    }

    private void set() {
        int[] highest = {20, 20, 90, 90, 9, 90, 30, 9};
        int a = some(0, 7);
        int b = some(a == 6 ? 1 : 0, a >= 0 && a < 8 ? highest[a] : 9);
        same("set(" + a + ", " + b + ")", permits.set(a, b), model.set(a, b, true));
    }

    private void places() {
        int a = some(0, 4), b = some(1, 4);
        same("places(" + a + ", " + b + ")", permits.places(a, b), model.places(a, b));
    }

    private void put() {
        int a = some(0, 5), b = some(0, 3), c = some(0, 5), d = some(0, 30);
        same("put(" + a + ", " + b + ", " + c + ", " + d + ")", permits.put(a, b, c, d), model.put(a, b, c, d, true));
    }

    private void swap() {
        int a = someSkip();
        same("swap(" + a + ")", permits.swap(a), model.swap(a, true));
    }

    private void take() {
        int a = someSkip();
        same("take(" + a + ")", permits.take(a), model.take(a, true));
    }

    private void permit() {
        int a = someSkip(), b = random.nextInt(3) == 0 ? some(1, 99) : some(1, 9);
        same("permit(" + a + ", " + b + ")", permits.permit(a, b), model.permit(a, b, true));
    }

    private void oil() {
        int a = someSkip();
        same("oil(" + a + ")", permits.oil(a), model.oil(a, true));
    }

    private void growth() {
        int a = someSkip(), b = some(0, 30);
        same("growth(" + a + ", " + b + ")", permits.growth(a, b), model.growth(a, b));
    }

    private void pass() {
        int a = random.nextInt(5) == 0 ? some(1, 99) : some(1, 5);
        same("pass(" + a + ")", permits.pass(a), model.pass(a, true));
    }

    private void undo() {
        same("undo()", permits.undo(), model.undo());
    }

    private void save() {
        int a = some(0, 1);
        same("save(" + a + ")", permits.save(a), model.save(a));
    }

    private void restore() {
        int a = some(0, 1);
        same("restore(" + a + ")", permits.restore(a), model.restore(a));
    }

    private void write(long a) {
        same("write(" + a + ")", permits.write(a), model.write(a));
    }

    private void text() {
        String text = orders();
        if (random.nextInt(3) == 0) {
            text = spoiled(text);
        }
        for (int from = 0; from < text.length(); from += 8) {
            write(Checks.packed(text.substring(from, Math.min(text.length(), from + 8))));
        }
        same("fault() of " + text, permits.fault(), model.fault());
        same("run() of " + text, permits.run(), model.run());
        if (random.nextInt(6) != 0) {
            same("wipe()", permits.wipe(), model.wipe());
        }
    }

    private String orders() {
        StringBuilder text = new StringBuilder();
        for (int left = random.nextInt(8); left >= 0; left--) {
            text.append(order()).append(left == 0 ? "" : ";");
        }
        return text.toString();
    }

    private String order() {
        int digit = random.nextInt(3) == 0 ? random.nextInt(10) : Math.max(0, Math.min(9, someSkip()));
        switch (random.nextInt(7)) {
            case 0: return "w" + digit;
            case 1: return "-" + digit;
            case 2: return "p" + digit + ":" + (1 + random.nextInt(99));
            case 3: return "o" + digit;
            case 4: return "." + (1 + random.nextInt(random.nextInt(8) == 0 ? 99 : 3));
            default: return "+" + random.nextInt(6) + random.nextInt(4) + random.nextInt(6) + ":" + random.nextInt(31);
        }
    }

    private String spoiled(String text) {
        int at = random.nextInt(text.length());
        String signs = "0123456789+w-po.:;!~x";
        String sign = "" + signs.charAt(random.nextInt(signs.length()));
        switch (random.nextInt(4)) {
            case 0: return text.substring(0, at);
            case 1: return text.substring(0, at) + text.substring(at + 1);
            case 2: return text.substring(0, at) + sign + text.substring(at);
            default: return text.substring(0, at) + sign + text.substring(at + 1);
        }
    }

    private void read() {
        int a = someSkip(), b = some(0, 10), c = some(0, 5);
        same("skip(" + a + ", " + b + ")", permits.skip(a, b), model.skip(a, b));
        int d = some(0, 18);
        same("count(" + d + ")", permits.count(d), model.count(d));
        int e = some(0, 4), f = some(0, 2);
        same("street(" + e + ", " + f + ")", permits.street(e, f), model.street(e, f));
        int g = some(0, 3), h = some(0, 200);
        same("customer(" + c + ", " + g + ")", permits.customer(c, g), model.customer(c, g));
        same("cost(" + c + ", " + h + ")", permits.cost(c, h), model.cost(c, h));
        same("untilFull(" + a + ")", permits.untilFull(a), model.untilFull(a));
        same("untilFine(" + a + ")", permits.untilFine(a), model.untilFine(a));
        int i = random.nextBoolean() ? some(1, 60) : some(1, 9), j = some(0, 1);
        same("bestSwap(" + a + ", " + i + ", " + j + ")", permits.bestSwap(a, i, j), model.bestSwap(a, i, j));
        same("dearest()", permits.dearest(), model.dearest());
    }

    private void readAll() {
        for (int what = -1; what <= 19; what++) {
            same("count(" + what + ")", permits.count(what), model.count(what));
        }
        for (int who = -1; who <= 10; who++) {
            for (int what = -1; what <= 11; what++) {
                same("skip(" + who + ", " + what + ")", permits.skip(who, what), model.skip(who, what));
                same("street(" + who + ", " + what + ")", permits.street(who, what), model.street(who, what));
                same("customer(" + who + ", " + what + ")", permits.customer(who, what), model.customer(who, what));
            }
        }
        same("dearest()", permits.dearest(), model.dearest());
    }
}
